/-! The class's state and the model's row -/
def Rl (S : SV) (f : Nat → Int32) : Prop :=
  (S.1 0 = f 0 ∧ S.1 1 = f 1 ∧ S.1 2 = f 4 ∧ S.1 3 = f 3 ∧ S.1 4 = f 2 ∧ S.1 5 = f 5 ∧ S.1 6 = f 6 ∧ S.1 7 = f 7) ∧ S.2.2 = (f 8).toInt64 ∧
  (∀ i, i < 6 → S.2.1 0 i = (if i < tF f then sF f i 0 else 0) ∧ S.2.1 1 i = (if i < tF f then sF f i 1 else 0)) ∧
  ∀ k, k < nF f → ∀ j, j < 6 → S.2.1 (2 + j) k = oF f k j
theorem Rl.n {S : SV} {f : Nat → Int32} (h : Rl S f) : nO S = nF f := by unfold nO nF; rw [h.1.2.1]
theorem Rl.t {S : SV} {f : Nat → Int32} (h : Rl S f) : nT S = tF f := by unfold nT tF; rw [h.1.1]
theorem Rl.ok {S : SV} {f : Nat → Int32} (h : Rl S f) (hf : okF f) : okS S := by
  refine ⟨?_, ?_, ?_, ?_⟩
  · rw [h.n, h.1.2.1]; exact hf.1
  · rw [h.n]; exact hf.2.1
  · rw [h.t, h.1.1]; exact hf.2.2.1
  · rw [h.t]; exact hf.2.2.2.1
theorem Rl.num {S : SV} {f : Nat → Int32} (h : Rl S f) {k : Nat} (hk : k < nF f) : S.2.1 2 k = oF f k 0 := h.2.2.2 k hk 0 (by decide)
theorem Rl.sta {S : SV} {f : Nat → Int32} (h : Rl S f) {k : Nat} (hk : k < nF f) : S.2.1 3 k = oF f k 1 := h.2.2.2 k hk 1 (by decide)
theorem Rl.sid {S : SV} {f : Nat → Int32} (h : Rl S f) {k : Nat} (hk : k < nF f) : S.2.1 4 k = oF f k 2 := h.2.2.2 k hk 2 (by decide)
theorem Rl.pri {S : SV} {f : Nat → Int32} (h : Rl S f) {k : Nat} (hk : k < nF f) : S.2.1 5 k = oF f k 3 := h.2.2.2 k hk 3 (by decide)
theorem Rl.qua {S : SV} {f : Nat → Int32} (h : Rl S f) {k : Nat} (hk : k < nF f) : S.2.1 6 k = oF f k 4 := h.2.2.2 k hk 4 (by decide)
theorem Rl.mnt {S : SV} {f : Nat → Int32} (h : Rl S f) {k : Nat} (hk : k < nF f) : S.2.1 7 k = oF f k 5 := h.2.2.2 k hk 5 (by decide)
theorem Rl.buy {S : SV} {f : Nat → Int32} (h : Rl S f) {k : Nat} (hk : k < nF f) : buyS S k = byF f k := by unfold buyS byF; rw [h.sid hk]
/-- stalls opened -/
theorem Rl.op {S : SV} {f : Nat → Int32} (h : Rl S f) (hf : okF f) (ht : tF f < 6) (x y : Int32) :
    Rl (opS S (nT S) x y) (upd (upd (upd f (9 + 2 * tF f) x) (9 + 2 * tF f + 1) y) 0 (nI (tF f + 1))) := by
  have et : tF (upd (upd (upd f (9 + 2 * tF f) x) (9 + 2 * tF f + 1) y) 0 (nI (tF f + 1))) = tF f + 1 := by
    show (upd _ 0 _ 0).toNatClampNeg = _
    rw [pk_us, nI_clamp (by omega)]
  have en : nF (upd (upd (upd f (9 + 2 * tF f) x) (9 + 2 * tF f + 1) y) 0 (nI (tF f + 1))) = nF f := by
    unfold nF
    rw [pk_un (by omega), pk_un (by omega), pk_un (by omega)]
  have lo : ∀ j, 1 ≤ j → j < 9 → upd (upd (upd f (9 + 2 * tF f) x) (9 + 2 * tF f + 1) y) 0 (nI (tF f + 1)) j = f j := fun j h1 h2 => by
    rw [pk_un (by omega), pk_un (by omega), pk_un (by omega)]
  have hi : ∀ j, 21 ≤ j → upd (upd (upd f (9 + 2 * tF f) x) (9 + 2 * tF f + 1) y) 0 (nI (tF f + 1)) j = f j := fun j h1 => by
    rw [pk_un (by omega), pk_un (by omega), pk_un (by omega)]
  rw [h.t]
  refine ⟨⟨?_, ?_, ?_, ?_, ?_, ?_, ?_, ?_⟩, ?_, fun i hi6 => ?_, fun k hk j hj => ?_⟩
  · rw [pk_us]; rfl
  · rw [lo 1 (by omega) (by omega)]; exact h.1.2.1
  · rw [lo 4 (by omega) (by omega)]; exact h.1.2.2.1
  · rw [lo 3 (by omega) (by omega)]; exact h.1.2.2.2.1
  · rw [lo 2 (by omega) (by omega)]; exact h.1.2.2.2.2.1
  · rw [lo 5 (by omega) (by omega)]; exact h.1.2.2.2.2.2.1
  · rw [lo 6 (by omega) (by omega)]; exact h.1.2.2.2.2.2.2.1
  · rw [lo 7 (by omega) (by omega)]; exact h.1.2.2.2.2.2.2.2
  · rw [lo 8 (by omega) (by omega)]; exact h.2.1
  · rw [et]
    have h1 := h.2.2.1 i hi6
    show upd (S.2.1 0) (tF f) x i = _ ∧ upd (S.2.1 1) (tF f) y i = _
    by_cases e : i = tF f
    · subst e
      rw [pk_us, pk_us, if_pos (by omega), if_pos (by omega)]
      unfold sF
      exact ⟨by rw [pk_un (by omega), pk_un (by omega), Nat.add_zero, pk_us], by rw [pk_un (by omega), pk_us]⟩
    · rw [pk_un e, pk_un e, h1.1, h1.2]
      by_cases l : i < tF f
      · rw [if_pos l, if_pos l, if_pos (by omega), if_pos (by omega)]
        unfold sF
        exact ⟨by rw [pk_un (by omega), pk_un (by omega), pk_un (by omega)], by rw [pk_un (by omega), pk_un (by omega), pk_un (by omega)]⟩
      · rw [if_neg l, if_neg l, if_neg (by omega), if_neg (by omega)]
        exact ⟨rfl, rfl⟩
  · rw [en] at hk
    have h1 := h.2.2.2 k hk j hj
    unfold oF at h1 ⊢
    rw [hi _ (by omega), ← h1]
    rcases (show j = 0 ∨ j = 1 ∨ j = 2 ∨ j = 3 ∨ j = 4 ∨ j = 5 by omega) with rfl | rfl | rfl | rfl | rfl | rfl <;> rfl
/-- a stall: the same fault on both sides -/
theorem Rl.fst {S : SV} {f : Nat → Int32} (h : Rl S f) (hf : okF f) (x y : Int32) : stF S x y = (if (inR x 0 9999 && inR y 0 999) = false then 2 else if tF f = 6 then 3 else 0) := by
  have h6 : tF f ≤ 6 := hf.2.2.2.1
  unfold stF
  rw [h.t]
  cases (inR x 0 9999 && inR y 0 999)
  · rfl
  · by_cases e : tF f = 6
    · rw [if_pos rfl, if_pos (by omega), if_neg (by decide), if_pos e]
    · rw [if_pos rfl, if_neg (by omega), if_neg (by decide), if_neg e]
/-- free money and drops -/
theorem fr_sub {c : Nat → Bool} {v : Nat → Int32} {a : Int32} : ∀ n : Nat, fr (fun p s => s - (if c p = true then v p else 0)) n a = a - bS c v n
  | 0 => by show a = a - 0; rw [Int32.sub_zero]
  | n + 1 => by
    show fr _ n a - _ = a - (if c n = true then bS c v n + v n else bS c v n)
    rw [fr_sub n]
    by_cases hc : c n = true
    · rw [if_pos hc, if_pos hc]
      simp only [Int32.sub_eq_add_neg, Int32.neg_add, Int32.add_assoc]
    · rw [if_neg hc, if_neg hc, Int32.sub_zero]
theorem bS_congr {c d : Nat → Bool} {v w : Nat → Int32} : ∀ {n : Nat}, (∀ k, k < n → c k = d k ∧ (c k = true → v k = w k)) → bS c v n = bS d w n
  | 0, _ => rfl
  | n + 1, h => by
    show (if c n = true then bS c v n + v n else bS c v n) = (if d n = true then bS d w n + w n else bS d w n)
    have h1 := h n (by omega)
    rw [bS_congr (n := n) (fun k hk => h k (by omega)), ← h1.1]
    by_cases hc : c n = true
    · rw [if_pos hc, if_pos hc, h1.2 hc]
    · rw [if_neg hc, if_neg hc]
theorem Rl.frM {S : SV} {f : Nat → Int32} (h : Rl S f) (hf : okF f) {i : Nat} (hi : i < tF f) : frM S (nI i) = fqR f i true (nF f) := by
  have h6 : tF f ≤ 6 := hf.2.2.2.1
  show rget 6 (S.2.1 0) (nI i) - bndM S (nI i) (nO S) = fr (fun p s => s - (if fqC f i true p = true then fqV f true p else 0)) (nF f) (sF f i 0)
  rw [fr_sub, rget_nI (by omega) (by decide), (h.2.2.1 i (by omega)).1, if_pos hi, h.n]
  congr 1
  unfold bndM
  refine bS_congr fun k hk => ⟨?_, fun _ => ?_⟩
  · unfold fqC
    rw [h.buy hk, h.sta hk, Bool.and_comm]
    cases byF f k <;> simp
  · unfold fqV
    rw [h.pri hk, h.qua hk, if_pos rfl, Int32.mul_comm]
theorem Rl.frD {S : SV} {f : Nat → Int32} (h : Rl S f) (hf : okF f) {i : Nat} (hi : i < tF f) : frD S (nI i) = fqR f i false (nF f) := by
  have h6 : tF f ≤ 6 := hf.2.2.2.1
  show rget 6 (S.2.1 1) (nI i) - bndD S (nI i) (nO S) = fr (fun p s => s - (if fqC f i false p = true then fqV f false p else 0)) (nF f) (sF f i 1)
  rw [fr_sub, rget_nI (by omega) (by decide), (h.2.2.1 i (by omega)).2, if_pos hi, h.n]
  congr 1
  unfold bndD
  refine bS_congr fun k hk => ⟨?_, fun _ => ?_⟩
  · unfold fqC
    rw [h.buy hk, h.sta hk, Bool.and_comm]
    cases byF f k <;> simp
  · unfold fqV
    rw [h.qua hk, if_neg (by decide), Int32.mul_one]
/-- totals -/
theorem Rl.tot {S : SV} {f : Nat → Int32} (h : Rl S f) (hf : okF f) {k : Nat} (hk : k < 2) : rsum 6 (S.2.1 k) = toR f k (tF f) := by
  have h6 : tF f ≤ 6 := hf.2.2.2.1
  have key : ∀ n, n ≤ 6 → fr (fun k1 s => s + S.2.1 k k1) n 0 = fr (fun i a => a + sF f i k) (min n (tF f)) 0 := by
    intro n
    induction n with
    | zero => intro _; rw [Nat.zero_min]; rfl
    | succ n ih =>
      intro hn
      have h1 := h.2.2.1 n (by omega)
      have h2 : S.2.1 k n = (if n < tF f then sF f n k else 0) := by
        rcases (show k = 0 ∨ k = 1 by omega) with rfl | rfl
        · exact h1.1
        · exact h1.2
      show fr _ n 0 + S.2.1 k n = _
      rw [ih (by omega), h2]
      by_cases l : n < tF f
      · rw [if_pos l, show min n (tF f) = n by omega, show min (n + 1) (tF f) = n + 1 by omega]
        rfl
      · rw [if_neg l, Int32.add_zero, show min n (tF f) = tF f by omega, show min (n + 1) (tF f) = tF f by omega]
  have h9 := key 6 (Nat.le_refl _)
  rw [show min 6 (tF f) = tF f by omega] at h9
  exact h9
