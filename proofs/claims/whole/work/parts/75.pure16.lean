/-! PURE: the scan of an entry's instructions -/
def pD (op : Int32) (d : Nat) : Nat := if op = 10 then d + 1 else if op = 11 then d - 1 else d
theorem p_effD (op : Int32) (k : Nat) (num bf cod dat : Int32) (d : Nat) (pl : Int32) (row crow kept : Nat → Int32) : (pEff op k num bf cod dat d pl row crow kept).1 = pD op d := by
  unfold pEff pD
  by_cases z0 : op = 0
  · subst z0; rw [if_pos rfl, if_neg (by decide), if_neg (by decide)]
  rw [if_neg z0]
  by_cases z1 : op = 1
  · subst z1; rw [if_pos rfl, if_neg (by decide), if_neg (by decide)]
  rw [if_neg z1]
  by_cases z2 : op = 2 ∨ op = 3 ∨ op = 4
  · rw [if_pos z2, if_neg (by rintro rfl; exact absurd z2 (by decide)), if_neg (by rintro rfl; exact absurd z2 (by decide))]
  rw [if_neg z2]
  by_cases z10 : op = 10
  · rw [if_pos z10, if_pos z10]
  rw [if_neg z10, if_neg z10]
  by_cases z11 : op = 11
  · rw [if_pos z11, if_pos z11]
  rw [if_neg z11, if_neg z11]
  split <;> rfl
def pRun (bb : Nat → Int32) (L : Nat) (i : Int32) : Nat → Nat → Nat → Prop
  | 0, a, _ => a = L
  | n + 1, a, d => a = L ∨ (a < L ∧ d ≤ 4 ∧ ∃ (op : Int32) (k : Nat) (num bf : Int32) (a1 : Nat), k < 8 ∧ a < a1 ∧ a1 ≤ L ∧ pD op d ≤ 4 ∧ pOk i op d ∧ pNum op num bf L ∧ f_In_readFrom 0 0 0 0 (nI a) (nI L) 0 bb = some (1, op, nI k, num, bf, nI a1, 0) ∧ pRun bb L i n a1 (pD op d))
theorem p_rf0 (o r n b t l k : Int32) (bb : Nat → Int32) : f_In_readFrom o r n b t l k bb = f_In_readFrom 0 0 0 0 t l k bb := rfl
theorem p_may (op : Int32) : f_In_mayStandInCommon op = some (if op = 1 ∨ op = 2 ∨ op = 3 ∨ op = 4 ∨ op = 6 ∨ op = 10 ∨ op = 11 then 0 else 1) := by
  unfold f_In_mayStandInCommon
  split <;> rfl
theorem p_depthT {α : Type} (A : α) (G : Int32 → α) (op : Int32) {d : Nat} (hd : d ≤ 4) (h1 : op = 10 → d < 4) (h2 : op = 11 → 0 < d) : (if op = 10 then (if (nI d + 1) < 0 then A else (if (nI d + 1) ≤ 4 then G (nI d + 1) else A)) else (if op = 11 then (if (nI d + (-1)) < 0 then A else (if (nI d + (-1)) ≤ 4 then G (nI d + (-1)) else A)) else (if nI d < 0 then A else (if nI d ≤ 4 then G (nI d) else A)))) = G (nI (pD op d)) := by
  unfold pD
  by_cases z10 : op = 10
  · rw [if_pos z10, if_pos z10, nI_1, if_neg (nI_pos (by omega)), if_pos (show nI (d + 1) ≤ (4 : Int32) from nI_le (b := 4) (by have := h1 z10; omega) (by omega))]
  rw [if_neg z10, if_neg z10]
  by_cases z11 : op = 11
  · obtain ⟨d', rfl⟩ : ∃ d', d = d' + 1 := ⟨d - 1, by have := h2 z11; omega⟩
    rw [if_pos z11, if_pos z11, pk_m1, if_neg (nI_pos (by omega)), if_pos (show nI d' ≤ (4 : Int32) from nI_le (b := 4) (by omega) (by omega))]
    rfl
  rw [if_neg z11, if_neg z11, if_neg (nI_pos (by omega)), if_pos (show nI d ≤ (4 : Int32) from nI_le (b := 4) (by omega) (by omega))]
theorem p_depthF {α : Type} (A : α) (G : Int32 → α) (op : Int32) {d : Nat} (hd : d ≤ 4) (h : ¬ ((op = 10 → d < 4) ∧ (op = 11 → 0 < d))) : (if op = 10 then (if (nI d + 1) < 0 then A else (if (nI d + 1) ≤ 4 then G (nI d + 1) else A)) else (if op = 11 then (if (nI d + (-1)) < 0 then A else (if (nI d + (-1)) ≤ 4 then G (nI d + (-1)) else A)) else (if nI d < 0 then A else (if nI d ≤ 4 then G (nI d) else A)))) = A := by
  by_cases z10 : op = 10
  · have h4 : d = 4 := by
      rcases Nat.lt_or_ge d 4 with q | q
      · exact absurd ⟨fun _ => q, fun z => absurd (z10.symm.trans z) (by decide)⟩ h
      · omega
    subst h4
    rw [if_pos z10, if_neg (by decide), if_neg (by decide)]
  by_cases z11 : op = 11
  · have h0 : d = 0 := by
      rcases Nat.eq_zero_or_pos d with q | q
      · exact q
      · exact absurd ⟨fun z => absurd (z11.symm.trans z) (by decide), fun _ => q⟩ h
    subst h0
    rw [if_neg z10, if_pos z11, if_pos (by decide)]
  exact absurd ⟨fun z => absurd z z10, fun z => absurd z z11⟩ h
theorem p_scan {mb bb : Nat → Int32} (hB : pB mb bb) {L e c : Nat} (hL : L ≤ 512) (he : e < 16) (hc : c < 16) (isC common code data crow begins back first range frm to : Nat → Int32) (hce : common e = nI c) (fr ins ends : Nat → Int32) (j1 : Nat) (hfr : fr j1 = 0 ↔ ¬ isC e = 0) (te x1 x3 x4 : Int32) : ∀ (j a d n m x : Nat) (pl o0 r0 n0 b0 : Int32) (row kept : Nat → Int32), a ≤ L → L ≤ a + j → d ≤ 4 → j < n → j < m → x ≤ a →
    (∃ (o r nn b kR pl' : Int32) (row' kept' : Nat → Int32), f_La_instructionsFault_19 n bb (nI a) (nI L) 0 o0 r0 n0 b0 fr ins ends j1 (nI d) (nI x) = some (-1, nI L, nI L, 0, o, r, nn, b) ∧ f_Md_entry_169 m te (nI a) (nI L) 0 (nI d) pl mb begins isC common code data back first range frm to row crow kept x1 (nI e) x3 x4 = some (-1, nI L, 0, kR, pl', begins, isC, common, code, data, back, first, range, frm, to, row', kept') ∧ pRun bb L (isC e) j a d) ∨
    (∃ f, f < 512 ∧ ∃ q u, f_La_instructionsFault_19 n bb (nI a) (nI L) 0 o0 r0 n0 b0 fr ins ends j1 (nI d) (nI x) = some (nI f, q) ∧ f_Md_entry_169 m te (nI a) (nI L) 0 (nI d) pl mb begins isC common code data back first range frm to row crow kept x1 (nI e) x3 x4 = some (nI f, u)) := by
  have hdone : ∀ (a d n m x : Nat) (pl o0 r0 n0 b0 : Int32) (row kept : Nat → Int32), a = L → f_La_instructionsFault_19 (n + 1) bb (nI a) (nI L) 0 o0 r0 n0 b0 fr ins ends j1 (nI d) (nI x) = some (-1, nI L, nI L, 0, o0, r0, n0, b0) ∧ f_Md_entry_169 (m + 1) te (nI a) (nI L) 0 (nI d) pl mb begins isC common code data back first range frm to row crow kept x1 (nI e) x3 x4 = some (-1, nI L, 0, nI d, pl, begins, isC, common, code, data, back, first, range, frm, to, row, kept) := by
    intro a d n m x pl o0 r0 n0 b0 row kept h
    subst h
    rw [f_La_instructionsFault_19, f_Md_entry_169, if_pos (nI_le (Nat.le_refl a) (by omega)), if_pos (nI_le (Nat.le_refl a) (by omega))]
    refine ⟨?_, rfl⟩
    split <;> rfl
  intro j
  induction j with
  | zero =>
    intro a d n m x pl o0 r0 n0 b0 row kept h1 h2 h3 h4 h5 h6
    match n, m, h4, h5 with
    | n + 1, m + 1, _, _ =>
      obtain ⟨g1, g2⟩ := hdone a d n m x pl o0 r0 n0 b0 row kept (by omega)
      exact Or.inl ⟨_, _, _, _, _, _, _, _, g1, g2, (by omega : a = L)⟩
  | succ j ih =>
    intro a d n m x pl o0 r0 n0 b0 row kept h1 h2 h3 h4 h5 h6
    match n, m, h4, h5 with
    | n + 1, m + 1, h4, h5 =>
      rcases Nat.lt_or_ge a L with ha | ha
      · rcases p_ins hB ha hL he hc h3 pl isC common code data row crow kept hce o0 r0 n0 b0 with ⟨op, k, num, bf, a1, d', pl', row', kept', i1, i2, i3, i4, i5, i6, i7, i8, i9⟩ | ⟨ok, op, q, t, u, i1, i2, i3⟩
        · have hd' : d' = pD op d := by rw [← p_effD op k num bf (code c) (data c) d pl row crow kept, ← i9]
          have hC : f_La_instructionsFault_19 (n + 1) bb (nI a) (nI L) 0 o0 r0 n0 b0 fr ins ends j1 (nI d) (nI x) = f_La_instructionsFault_19 n bb (nI a1) (nI L) 0 op (nI k) num bf fr ins ends j1 (nI (pD op d)) (nI x + 1) := by
            rw [f_La_instructionsFault_19, if_neg (show ¬ (512 : Int32) ≤ nI x from nI_ge (b := 512) (by omega) (by omega)), if_neg (nI_ge ha (by omega)), i7, Option.bind_some]
            dsimp only
            rw [if_neg (by decide)]
            by_cases hi : isC e = 0
            · rw [if_neg (fun z => hfr.mp z hi)]
              exact p_depthT _ (fun z => f_La_instructionsFault_19 n bb (nI a1) (nI L) 0 op (nI k) num bf fr ins ends j1 z (nI x + 1)) op h3 i5.2.1 i5.2.2
            · rw [if_pos (hfr.mpr hi), p_may, Option.bind_some, if_neg (i5.1.resolve_left hi), if_neg (by decide)]
              exact p_depthT _ (fun z => f_La_instructionsFault_19 n bb (nI a1) (nI L) 0 op (nI k) num bf fr ins ends j1 z (nI x + 1)) op h3 i5.2.1 i5.2.2
          have hM : f_Md_entry_169 (m + 1) te (nI a) (nI L) 0 (nI d) pl mb begins isC common code data back first range frm to row crow kept x1 (nI e) x3 x4 = f_Md_entry_169 m te (nI a1) (nI L) 0 (nI d') pl' mb begins isC common code data back first range frm to row' crow kept' x1 (nI e) x3 x4 := by
            rw [f_Md_entry_169, if_neg (nI_ge ha (by omega)), i8, Option.bind_some]
            dsimp only
            rw [if_pos rfl]
          rw [nI_1 x] at hC
          rw [hC, hM, hd']
          rcases ih a1 (pD op d) n m (x + 1) pl' op (nI k) num bf row' kept' i3 (by omega) (by omega) (by omega) (by omega) (by omega) with ⟨o, r, nn, b, kR, pl2, row2, kept2, g1, g2, g3⟩ | hbad
          · exact Or.inl ⟨o, r, nn, b, kR, pl2, row2, kept2, g1, g2, Or.inr ⟨ha, h3, op, k, num, bf, a1, i1, i2, i3, by omega, i5, i6, i7, g3⟩⟩
          · exact Or.inr hbad
        · refine Or.inr ⟨a, by omega, (q.2.2.2.1, nI L, q.2.2.2.2, op, q.1, q.2.1, q.2.2.1), (t, 1, u.1, u.2.1, begins, isC, common, code, data, back, first, range, frm, to, u.2.2.1, u.2.2.2), ?_, ?_⟩
          · rw [f_La_instructionsFault_19, if_neg (show ¬ (512 : Int32) ≤ nI x from nI_ge (b := 512) (by omega) (by omega)), if_neg (nI_ge ha (by omega)), i2, Option.bind_some]
            dsimp only
            rcases i1 with i1 | ⟨i1, i4⟩
            · rw [if_pos i1]
            · subst i1
              rw [if_neg (by decide)]
              by_cases hi : isC e = 0
              · rw [if_neg (fun z => hfr.mp z hi)]
                exact p_depthF _ (fun z => f_La_instructionsFault_19 n bb _ _ _ op _ _ _ fr ins ends j1 z (nI x + 1)) op h3 (fun z => i4 ⟨Or.inl hi, z⟩)
              · rw [if_pos (hfr.mpr hi), p_may, Option.bind_some]
                by_cases hm : op = 1 ∨ op = 2 ∨ op = 3 ∨ op = 4 ∨ op = 6 ∨ op = 10 ∨ op = 11
                · rw [if_pos hm, if_pos rfl]
                · rw [if_neg hm, if_neg (by decide)]
                  exact p_depthF _ (fun z => f_La_instructionsFault_19 n bb _ _ _ op _ _ _ fr ins ends j1 z (nI x + 1)) op h3 (fun z => i4 ⟨Or.inr hm, z⟩)
          · rw [f_Md_entry_169, if_neg (nI_ge ha (by omega)), i3, Option.bind_some]
            dsimp only
            rw [if_neg (by decide)]
      · obtain ⟨g1, g2⟩ := hdone a d n m x pl o0 r0 n0 b0 row kept (by omega)
        exact Or.inl ⟨_, _, _, _, _, _, _, _, g1, g2, Or.inl (by omega : a = L)⟩
