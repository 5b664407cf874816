/-! PURE: places compared; facts on rows -/
theorem p_cmpU (x y : Int32) : ∃ v, f_Ij_compareUnsigned x y = some v ∧ (0 < v ↔ 0 < lg_cmp (x.toInt64 &&& 4294967295) (y.toInt64 &&& 4294967295)) := by
  have hx := x.toInt_lt
  have hy := y.toInt_lt
  have hx2 := x.le_toInt
  have hy2 := y.le_toInt
  have e1 : ∀ z : Int32, -2 ^ 31 ≤ z.toInt → z.toInt < 2 ^ 31 → (z + (-2147483648)).toInt = z.toInt % 2 ^ 32 - 2 ^ 31 := by
    intro z h1 h2
    rw [Int32.toInt_add, show (-2147483648 : Int32).toInt = -2147483648 by decide, Int.bmod_def]
    split <;> omega
  have ea := e1 x hx2 hx
  have eb := e1 y hy2 hy
  rw [lg_cmp_gt, Int64.lt_iff_toInt_lt, Jvm.Kit.i64_mask (k := 32) _ 4294967295 (by decide) (by decide), Jvm.Kit.i64_mask (k := 32) _ 4294967295 (by decide) (by decide), Int32.toInt_toInt64, Int32.toInt_toInt64]
  unfold f_Ij_compareUnsigned f_Ij_compare
  by_cases h1 : y + (-2147483648) ≤ x + (-2147483648)
  · rw [if_pos h1]
    rw [Int32.le_iff_toInt_le, ea, eb] at h1
    by_cases h2 : x + (-2147483648) = y + (-2147483648)
    · rw [if_pos h2, Option.bind_some]
      refine ⟨0, rfl, ?_⟩
      rw [← Int32.toInt_inj, ea, eb] at h2
      constructor
      · intro z; exact absurd z (by decide)
      · intro z; omega
    · rw [if_neg h2, Option.bind_some]
      refine ⟨1, rfl, ?_⟩
      rw [← Int32.toInt_inj, ea, eb] at h2
      constructor
      · intro z; omega
      · intro z; decide
  · rw [if_neg h1, Option.bind_some]
    rw [Int32.le_iff_toInt_le, ea, eb] at h1
    refine ⟨-1, rfl, ?_⟩
    constructor
    · intro z; exact absurd z (by decide)
    · intro z; omega
theorem p_cmp0 (y : Int32) : ∃ v, f_Ij_compareUnsigned 0 y = some v ∧ ¬ 0 < v := by
  obtain ⟨v, h1, h2⟩ := p_cmpU 0 y
  refine ⟨v, h1, fun z => ?_⟩
  have z := h2.mp z
  rw [lg_cmp_gt, Int64.lt_iff_toInt_lt, Jvm.Kit.i64_mask (k := 32) _ 4294967295 (by decide) (by decide), Jvm.Kit.i64_mask (k := 32) _ 4294967295 (by decide) (by decide), Int32.toInt_toInt64, Int32.toInt_toInt64] at z
  rw [show (0 : Int32).toInt = 0 by decide] at z
  omega
def pRf (S : Nat) (row : Nat → Int32) : Prop :=
  (∀ r, r < 8 → (∃ w, w < 7 ∧ row r = nI w) ∧ (row r = 4 → ∃ j, j < 8 ∧ row (8 + r) = nI j) ∧ (row r = 5 ∨ row r = 6 → ∃ x m : Nat, row (8 + r) = nI x ∧ row (16 + r) = nI m ∧ x + m ≤ S)) ∧
  (row 24 = 0 ∨ row 24 = 1 ∨ row 24 = 2) ∧ (row 24 = 1 → ∃ j, j < 8 ∧ row 26 = nI j) ∧ (row 24 = 2 → ∃ x m : Nat, row 25 = nI x ∧ row 26 = nI m ∧ x + m ≤ S)
theorem p_rfEq {S : Nat} {row row2 : Nat → Int32} (h : pRf S row) (e : ∀ i, i < 27 → row2 i = row i) : pRf S row2 := by
  refine ⟨fun r hr => ?_, ?_, ?_, ?_⟩
  · rw [e _ (by omega), e _ (by omega), e _ (by omega)]; exact h.1 r hr
  · rw [e _ (by omega)]; exact h.2.1
  · rw [e _ (by omega), e _ (by omega)]; exact h.2.2.1
  · rw [e _ (by omega), e _ (by omega), e _ (by omega)]; exact h.2.2.2
theorem p_rfRule {S : Nat} {row : Nat → Int32} (h : pRf S row) {k : Nat} (hk : k < 8) {x y z : Int32} (h1 : ∃ w, w < 7 ∧ x = nI w) (h2 : x = 4 → ∃ j, j < 8 ∧ y = nI j) (h3 : x = 5 ∨ x = 6 → ∃ p m : Nat, y = nI p ∧ z = nI m ∧ p + m ≤ S) : pRf S (pRule row k x y z) := by
  unfold pRule
  refine ⟨fun r hr => ?_, ?_, ?_, ?_⟩
  · by_cases e : r = k
    · subst e
      rw [upd_n _ (by omega), upd_n _ (by omega), upd_s, upd_n _ (by omega), upd_s, upd_s]
      exact ⟨h1, h2, h3⟩
    · rw [upd_n _ (by omega), upd_n _ (by omega), upd_n _ (by omega), upd_n _ (by omega), upd_n _ (by omega), upd_n _ (by omega), upd_n _ (by omega), upd_n _ (by omega), upd_n _ (by omega)]
      exact h.1 r hr
  · rw [upd_n _ (by omega), upd_n _ (by omega), upd_n _ (by omega)]; exact h.2.1
  · rw [upd_n _ (by omega), upd_n _ (by omega), upd_n _ (by omega), upd_n _ (by omega), upd_n _ (by omega), upd_n _ (by omega)]; exact h.2.2.1
  · rw [upd_n _ (by omega), upd_n _ (by omega), upd_n _ (by omega), upd_n _ (by omega), upd_n _ (by omega), upd_n _ (by omega), upd_n _ (by omega), upd_n _ (by omega), upd_n _ (by omega)]; exact h.2.2.2
theorem p_rfCfa {S : Nat} {row : Nat → Int32} (h : pRf S row) {x y z : Int32} (h1 : x = 0 ∨ x = 1 ∨ x = 2) (h2 : x = 1 → ∃ j, j < 8 ∧ z = nI j) (h3 : x = 2 → ∃ p m : Nat, y = nI p ∧ z = nI m ∧ p + m ≤ S) : pRf S (pCfa row x y z) := by
  unfold pCfa
  refine ⟨fun r hr => ?_, ?_, ?_, ?_⟩
  · rw [upd_n _ (by omega), upd_n _ (by omega), upd_n _ (by omega), upd_n _ (by omega), upd_n _ (by omega), upd_n _ (by omega), upd_n _ (by omega), upd_n _ (by omega), upd_n _ (by omega)]; exact h.1 r hr
  · rw [upd_n _ (by omega), upd_n _ (by omega), upd_s]; exact h1
  · rw [upd_n _ (by omega), upd_n _ (by omega), upd_s, upd_s]; exact h2
  · rw [upd_n _ (by omega), upd_n _ (by omega), upd_s, upd_n _ (by omega), upd_s, upd_s]; exact h3
theorem p_rfBeg (S : Nat) (row : Nat → Int32) {r : Nat} (hr : r < 8) : pRf S (pBeg row r) := by
  have h0 : pRf S (pZ1 (pZ row 27) 8) := by
    refine ⟨fun k hk => ?_, Or.inl rfl, fun z => absurd (show (0 : Int32) = 1 from z) (by decide), fun z => absurd (show (0 : Int32) = 2 from z) (by decide)⟩
    rw [show pZ1 (pZ row 27) 8 k = 1 from if_pos hk]
    exact ⟨⟨1, by omega, rfl⟩, fun z => absurd z (by decide), fun z => absurd z (by decide)⟩
  exact p_rfRule (p_rfRule h0 (by omega) ⟨3, by omega, rfl⟩ (fun z => absurd z (by decide)) (fun z => absurd z (by decide))) hr ⟨0, by omega, rfl⟩ (fun z => absurd z (by decide)) (fun z => absurd z (by decide))
theorem p_toldR {S : Nat} {row : Nat → Int32} (h : pRf S row) : ∃ j, j < 8 ∧ (if row 24 = 1 then row 26 else 0) = nI j := by
  by_cases z : row 24 = 1
  · rw [if_pos z]; exact h.2.2.1 z
  · rw [if_neg z]; exact ⟨0, by omega, rfl⟩
theorem p_opOf {mb bb : Nat → Int32} (hB : pB mb bb) {a L : Nat} (ha : a < L) (hL : L ≤ 512) {op r n b t k : Int32} (h : f_In_readFrom 0 0 0 0 (nI a) (nI L) 0 bb = some (1, op, r, n, b, t, k)) : ∃ w, w < 23 ∧ op = nI w := by
  have h119 : ∀ (o r n b t l k : Int32) (bb : Nat → Int32) (x y : Int32), ∃ ok q, f_In_readFrom_119 o r n b t l k bb x y = some (ok, o, q) := by
    intro o r n b t l k bb x y
    unfold f_In_readFrom_119
    by_cases z : k = 0
    · rw [if_pos z]
      by_cases z2 : r < 0
      · rw [if_pos z2]; exact ⟨_, _, rfl⟩
      · rw [if_neg z2]
        by_cases z3 : 8 ≤ r
        · rw [if_pos z3]; exact ⟨_, _, rfl⟩
        · rw [if_neg z3]; exact ⟨_, _, rfl⟩
    · rw [if_neg z]; exact ⟨_, _, rfl⟩
  obtain ⟨v, hv, hb⟩ := p_byteOf hB (show a < 512 by omega)
  rcases Nat.lt_or_ge v 64 with h1 | h1
  · rw [p_RF hB ha hL h1 hb] at h
    rcases Nat.lt_or_ge v 23 with h2 | h2
    · refine ⟨v, h2, ?_⟩
      obtain ⟨q, hq, h⟩ := Option.bind_eq_some_iff.mp h
      unfold pFin at h
      by_cases z : q.1 = 0
      · rw [if_pos z] at h
        exact absurd (congrArg (fun t => t.1) (Option.some.inj h)) (by dsimp only; decide)
      · rw [if_neg z] at h
        obtain ⟨ok, q2, e⟩ := h119 (nI v) q.2.1 q.2.2.1 q.2.2.2.1 q.2.2.2.2.1 (nI L) q.2.2.2.2.2 bb (nI v) (nI v)
        rw [e] at h
        exact (congrArg (fun t => t.2.1) (Option.some.inj h)).symm
    · rw [p_RoN h2 h1, Option.bind_some] at h
      unfold pFin at h
      rw [if_pos rfl] at h
      exact absurd (congrArg (fun t => t.1) (Option.some.inj h)) (by dsimp only; decide)
  · unfold f_In_readFrom at h
    rw [p_Rbyte1 hB ha hL, Option.bind_some] at h
    dsimp only at h
    rw [hb, p_sh6 v hv, p_a63 v hv] at h
    rcases Nat.lt_or_ge v 128 with h2 | h2
    · rw [show v / 64 = 1 by omega, if_pos (by decide)] at h
      obtain ⟨ok, q2, e⟩ := h119 2 0 (nI (v % 64)) 0 (nI (a + 1)) (nI L) 0 bb (nI v) (nI (v % 64))
      rw [e] at h
      exact ⟨2, by omega, (congrArg (fun t => t.2.1) (Option.some.inj h)).symm⟩
    · rcases Nat.lt_or_ge v 192 with h3 | h3
      · rw [show v / 64 = 2 by omega, if_neg (by decide), if_pos (by decide)] at h
        obtain ⟨q, hq, h⟩ := Option.bind_eq_some_iff.mp h
        obtain ⟨ok, q2, e⟩ := h119 5 (nI (v % 64)) q.1 0 q.2.1 (nI L) q.2.2 bb (nI v) (nI (v % 64))
        rw [e] at h
        exact ⟨5, by omega, (congrArg (fun t => t.2.1) (Option.some.inj h)).symm⟩
      · rw [show v / 64 = 3 by omega, if_neg (by decide), if_neg (by decide), if_pos (by decide)] at h
        obtain ⟨ok, q2, e⟩ := h119 6 (nI (v % 64)) 0 0 (nI (a + 1)) (nI L) 0 bb (nI v) (nI (v % 64))
        rw [e] at h
        exact ⟨6, by omega, (congrArg (fun t => t.2.1) (Option.some.inj h)).symm⟩
