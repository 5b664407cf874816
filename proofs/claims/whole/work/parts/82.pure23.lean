/-! PURE: the bits of what is known -/
def pKn (kn : Int32) (r : Nat) : Prop := kn.toBitVec.getLsbD r = true
theorem p_sh1 : ∀ r, r < 8 → ((1 : Int32) <<< (nI r &&& 31)) = nI (2 ^ r) := by decide +kernel
theorem p_2p : ∀ r, r < 8 → (nI (2 ^ r)).toBitVec = BitVec.twoPow 32 r := by decide +kernel
theorem p_m1 : (-1 : Int32).toBitVec = BitVec.allOnes 32 := by decide +kernel
theorem p_kn0 {kn : Int32} {r : Nat} (hr : r < 8) : (kn &&& ((1 : Int32) <<< (nI r &&& 31))) = 0 ↔ ¬ pKn kn r := by
  rw [p_sh1 r hr]
  unfold pKn
  rw [← Int32.toBitVec_inj, Int32.toBitVec_and, p_2p r hr, BitVec.and_twoPow]
  by_cases h : kn.toBitVec.getLsbD r = true
  · rw [if_pos h]
    refine ⟨fun z => ?_, fun z => absurd h z⟩
    have := congrArg (fun t => BitVec.getLsbD t r) z
    rw [BitVec.getLsbD_twoPow] at this
    rw [show (0 : Int32).toBitVec = 0#32 from rfl, BitVec.getLsbD_zero] at this
    exact absurd this (by simp only [decide_true, Bool.and_true, decide_eq_false_iff_not, Nat.not_lt]; omega)
  · rw [if_neg h]
    exact ⟨fun _ => h, fun _ => rfl⟩
theorem p_knC {kn : Int32} {r : Nat} (hr : r < 8) : (pKn kn r ∧ f_Fr_knows kn (nI r) = some 1) ∨ (¬ pKn kn r ∧ f_Fr_knows kn (nI r) = some 0) := by
  unfold f_Fr_knows
  by_cases h : pKn kn r
  · exact Or.inl ⟨h, if_neg (fun z => (p_kn0 hr).mp z h)⟩
  · exact Or.inr ⟨h, if_pos ((p_kn0 hr).mpr h)⟩
theorem p_knM {kn : Int32} {r : Nat} (hr : r < 8) : ((kn >>> (nI r &&& 31)) &&& 1) = 1 ↔ pKn kn r := by
  have hs : ((nI r &&& 31).toBitVec.smod 32).toNat = r := (by decide +kernel : ∀ r, r < 8 → ((nI r &&& 31).toBitVec.smod 32).toNat = r) r hr
  have h1 := pk_and (kn >>> (nI r &&& 31)) (m := 1) 1 (by decide)
  have h2 : (kn >>> (nI r &&& 31)).toBitVec.toNat % 2 ^ 1 = kn.toBitVec.toNat / 2 ^ r % 2 := by
    have h3 := pk_shr kn (nI r &&& 31) r hs
    have h4 := congrArg (fun t : Int => t % 2) h3
    rw [← Int32.toInt_toBitVec, ← Int32.toInt_toBitVec, BitVec.toInt_eq_toNat_cond, BitVec.toInt_eq_toNat_cond, Int.shiftRight_eq_div_pow] at h4
    have l1 := kn.toBitVec.isLt
    have l2 := (kn >>> (nI r &&& 31)).toBitVec.isLt
    generalize kn.toBitVec.toNat = x at *
    generalize (kn >>> (nI r &&& 31)).toBitVec.toNat = y at *
    match r, hr with
    | 0, _ => split at h4 <;> split at h4 <;> omega
    | 1, _ => split at h4 <;> split at h4 <;> omega
    | 2, _ => split at h4 <;> split at h4 <;> omega
    | 3, _ => split at h4 <;> split at h4 <;> omega
    | 4, _ => split at h4 <;> split at h4 <;> omega
    | 5, _ => split at h4 <;> split at h4 <;> omega
    | 6, _ => split at h4 <;> split at h4 <;> omega
    | 7, _ => split at h4 <;> split at h4 <;> omega
    | r + 8, hr => exact absurd hr (by omega)
  rw [h1, h2, show (1 : Int32) = nI 1 from rfl, nI_eq (by omega) (by omega)]
  unfold pKn
  rw [BitVec.getLsbD, Nat.testBit_eq_decide_div_mod_eq, decide_eq_true_eq]
theorem p_kn1 {kn : Int32} {r j : Nat} (hr : r < 8) (hj : j < 32) : pKn (kn ||| ((1 : Int32) <<< (nI r &&& 31))) j ↔ pKn kn j ∨ j = r := by
  rw [p_sh1 r hr]
  unfold pKn
  rw [Int32.toBitVec_or, p_2p r hr, BitVec.getLsbD_or, BitVec.getLsbD_twoPow, Bool.or_eq_true, Bool.and_eq_true, decide_eq_true_eq, decide_eq_true_eq]
  constructor
  · rintro (h | ⟨_, h⟩)
    · exact Or.inl h
    · exact Or.inr h.symm
  · rintro (h | h)
    · exact Or.inl h
    · exact Or.inr ⟨by omega, h.symm⟩
theorem p_kn2 {kn : Int32} {r j : Nat} (hr : r < 8) (hj : j < 32) : pKn (kn &&& (((1 : Int32) <<< (nI r &&& 31)) ^^^ (-1))) j ↔ pKn kn j ∧ j ≠ r := by
  rw [p_sh1 r hr]
  unfold pKn
  rw [Int32.toBitVec_and, Int32.toBitVec_xor, p_2p r hr, p_m1, BitVec.getLsbD_and, BitVec.getLsbD_xor, BitVec.getLsbD_twoPow, BitVec.getLsbD_allOnes, Bool.and_eq_true]
  constructor
  · rintro ⟨h1, h2⟩
    refine ⟨h1, fun z => ?_⟩
    subst z
    simp [hj, show j < 32 from hj] at h2
  · rintro ⟨h1, h2⟩
    refine ⟨h1, ?_⟩
    rw [decide_eq_false (show ¬ r = j from fun z => h2 z.symm), decide_eq_true hj, Bool.and_false]
    rfl
theorem p_knE {a b : Int32} (h : ∀ j, j < 32 → (pKn a j ↔ pKn b j)) : a = b := by
  apply Int32.toBitVec_inj.mp
  apply BitVec.eq_of_getLsbD_eq
  intro i hi
  exact Bool.eq_iff_iff.mpr (h i hi)
theorem p_knZ (j : Nat) : ¬ pKn 0 j := by
  unfold pKn
  rw [show (0 : Int32).toBitVec = 0#32 from rfl, BitVec.getLsbD_zero]
  decide
