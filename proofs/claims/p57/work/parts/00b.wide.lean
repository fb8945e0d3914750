/-! These parts are read over the whole library: names of it that only stand there (part 57 needs the first two) -/
theorem zw_0 : @Bundle.chainSAtomsX = @Bundle.chainSAtomsX := rfl
theorem zw_1 : @Bundle.ownAtomsX = @Bundle.ownAtomsX := rfl
theorem zw_2 : @Bundle.ownAtomsX_six = @Bundle.ownAtomsX_six := rfl
theorem zw_3 : @Stand.ctorThrowOnSVX = @Stand.ctorThrowOnSVX := rfl
theorem zw_4 : @Stand.ctorMadeOnSVX = @Stand.ctorMadeOnSVX := rfl
theorem zw_5 : @Stand.throwMadeVX = @Stand.throwMadeVX := rfl
theorem zw_6 : @Stand.throwMadeV_is_an_instance = @Stand.throwMadeV_is_an_instance := rfl
theorem zw_7 : @Bundle.chainSX = @Bundle.chainSX := rfl
theorem zw_8 : @Jvm.Free.OptW.OrElseThrow.xi = @Jvm.Free.OptW.OrElseThrow.xi := rfl
theorem zw_9 : @Jvm.Free.OptW.OrElseThrow.d12 = @Jvm.Free.OptW.OrElseThrow.d12 := rfl
theorem zw_10 : @Jvm.Free.OptW.OrElseThrow.d13 = @Jvm.Free.OptW.OrElseThrow.d13 := rfl
theorem zw_11 : @Jvm.Free.OptW.OrElseThrow.d18 = @Jvm.Free.OptW.OrElseThrow.d18 := rfl
theorem zw_12 : @Jvm.Free.OptW.OrElseThrow.d21 = @Jvm.Free.OptW.OrElseThrow.d21 := rfl
theorem zw_13 : @Jvm.Free.OptW.OrElseThrow.tabA = @Jvm.Free.OptW.OrElseThrow.tabA := rfl
