/-! PURE: one entry, class against model -/
def pEnt (bb : Nat → Int32) (S : Nat) (fr beg ins ends com cod dat rr fi ra begins isC common code data back first range frm to : Nat → Int32) (i : Nat) : Prop :=
  (fr i = 0 ↔ ¬ isC i = 0) ∧ beg i = begins i ∧
  (∃ f t : Nat, ins i = nI f ∧ ends i = nI t ∧ frm i = nI f ∧ to i = nI t ∧ f ≤ t ∧ t ≤ S ∧ pRun bb t (isC i) 512 f 0) ∧
  (isC i = 0 → fi i = first i ∧ ra i = range i ∧ ∃ c, c < i ∧ com i = nI c ∧ common i = nI c ∧ ¬ isC c = 0) ∧
  (¬ isC i = 0 → cod i = code i ∧ dat i = data i ∧ common i = nI i ∧ ∃ r, r < 8 ∧ rr i = nI r ∧ back i = nI r)
theorem p_entC {bb : Nat → Int32} {S i : Nat} {fr beg ins ends com cod dat rr fi ra begins isC common code data back first range frm to fr' beg' ins' ends' com' cod' dat' rr' fi' ra' begins' isC' common' code' data' back' first' range' frm' to' : Nat → Int32} (h : pEnt bb S fr beg ins ends com cod dat rr fi ra begins isC common code data back first range frm to i) (hq : ∀ j, j ≤ i → (fr' j = fr j ∧ beg' j = beg j ∧ ins' j = ins j ∧ ends' j = ends j ∧ com' j = com j) ∧ (cod' j = cod j ∧ dat' j = dat j ∧ rr' j = rr j ∧ fi' j = fi j ∧ ra' j = ra j) ∧ (begins' j = begins j ∧ isC' j = isC j ∧ common' j = common j ∧ code' j = code j ∧ data' j = data j) ∧ (back' j = back j ∧ first' j = first j ∧ range' j = range j ∧ frm' j = frm j ∧ to' j = to j)) : pEnt bb S fr' beg' ins' ends' com' cod' dat' rr' fi' ra' begins' isC' common' code' data' back' first' range' frm' to' i := by
  obtain ⟨⟨a1, a2, a3, a4, a5⟩, ⟨b1, b2, b3, b4, b5⟩, ⟨c1, c2, c3, c4, c5⟩, d1, d2, d3, d4, d5⟩ := hq i (Nat.le_refl _)
  obtain ⟨h1, h2, h3, h4, h5⟩ := h
  refine ⟨by rw [a1, c2]; exact h1, by rw [a2, c1]; exact h2, ?_, ?_, ?_⟩
  · rw [a3, a4, d4, d5, c2]; exact h3
  · rw [c2, b4, d2, b5, d3, a5, c3]
    intro z
    obtain ⟨g1, g2, c, g3, g4, g5, g6⟩ := h4 z
    refine ⟨g1, g2, c, g3, g4, g5, ?_⟩
    obtain ⟨-, -, ⟨-, y, -⟩, -⟩ := hq c (by omega)
    rw [y]
    exact g6
  · rw [c2, b1, c4, b2, c5, c3, b3, d1]; exact h5
def pBg (begins : Nat → Int32) (e p : Nat) : Prop := ∀ i, i < e → (∃ b, b < p ∧ begins i = nI b) ∧ ∀ k, k < i → begins k ≠ begins i
theorem p_tail {mb bb : Nat → Int32} (hB : pB mb bb) {a T e c r : Nat} (ha : a ≤ T) (hT : T ≤ 512) (he : e < 16) (hc : c < 16) (hr : r < 8) (fr ins ends begins isC common code data back first range frm to row crow kept : Nat → Int32) (hce : common e = nI c) (hb : back c = nI r) (hfr : fr e = 0 ↔ ¬ isC e = 0) (hi : ins e = nI a) (hn : ends e = nI T) (te kr pl x1 x3 x4 o0 r0 n0 b0 rA rL rB : Int32) :
    (∃ f, f ≤ 512 ∧ ∃ q u, f_La_instructionsFault bb rA rL rB o0 r0 n0 b0 fr ins ends e = some (nI f, q) ∧ f_Md_entry_133 te (nI a) (nI T) 0 kr pl mb begins isC common code data back first range frm to row crow kept x1 (nI e) x3 x4 (-1) = some (nI f, u)) ∨
    (∃ (o r nn b kR pl' : Int32) (row' kept' : Nat → Int32), f_La_instructionsFault bb rA rL rB o0 r0 n0 b0 fr ins ends e = some (-1, nI T, nI T, 0, o, r, nn, b) ∧ f_Md_entry_133 te (nI a) (nI T) 0 kr pl mb begins isC common code data back first range frm to row crow kept x1 (nI e) x3 x4 (-1) = some (-1, nI T, 0, kR, pl', begins, isC, common, code, data, back, first, range, upd frm e (nI a), upd to e (nI T), row', kept') ∧ pRun bb T (isC e) 512 a 0) := by
  have hC : f_La_instructionsFault bb rA rL rB o0 r0 n0 b0 fr ins ends e = f_La_instructionsFault_19 LF bb (nI a) (nI T) 0 o0 r0 n0 b0 fr ins ends e (nI 0) (nI 0) := by
    unfold f_La_instructionsFault f_Rd_open
    rw [Option.bind_some, hi, hn]
    rfl
  have hM : f_Md_entry_133 te (nI a) (nI T) 0 kr pl mb begins isC common code data back first range frm to row crow kept x1 (nI e) x3 x4 (-1) = f_Md_entry_169 LF te (nI a) (nI T) 0 (nI 0) 0 mb begins isC common code data back first range (upd frm e (nI a)) (upd to e (nI T)) (pBeg row r) crow kept x1 (nI e) x3 (-1) := by
    unfold f_Md_entry_133
    rw [if_pos rfl, if_neg (nI_in he (by omega)), if_neg (nI_in he (by omega)), p_begin 0 kr pl common back row he hc hr hce hb, Option.bind_some, nI_clamp (show e < 2 ^ 31 by omega)]
    rfl
  rw [hC, hM]
  rcases p_scan hB hT he hc isC common code data crow begins back first range (upd frm e (nI a)) (upd to e (nI T)) hce fr ins ends e hfr te x1 x3 (-1) 512 a 0 LF LF 0 0 o0 r0 n0 b0 (pBeg row r) kept ha (by omega) (by omega) (by unfold LF; omega) (by unfold LF; omega) (by omega) with h | ⟨f, hf, h⟩
  · exact Or.inr h
  · exact Or.inl ⟨f, by omega, h⟩
theorem p_entry {mb bb : Nat → Int32} (hB : pB mb bb) {p N S e : Nat} (hN : 4 ≤ N) (hT : p + 4 + N ≤ S) (hS : S ≤ 512) (he : e < 16) (hv : pU mb p 4 = nI N) (fr beg ins ends com cod dat rr fi ra begins isC common code data back first range frm to row crow kept : Nat → Int32) (hE : ∀ i, i < e → pEnt bb S fr beg ins ends com cod dat rr fi ra begins isC common code data back first range frm to i) (hG : pBg begins e p) (kr pl o0 r0 n0 b0 rA rL rB : Int32) :
    (∃ f, f ≤ 512 ∧ ∃ q u, f_La_headFault (nI e) (nI S) bb rA rL rB fr beg ins ends com cod dat rr fi ra e (nI p) = some (nI f, q) ∧ f_Md_entry (nI e) (nI (p + 4)) (nI (p + 4 + N)) 0 kr pl mb begins isC common code data back first range frm to row crow kept (nI p) = some (nI f, u)) ∨
    (∃ (rA' rL' rB' : Int32) (fr' beg' ins' ends' com' cod' dat' rr' fi' ra' : Nat → Int32), f_La_headFault (nI e) (nI S) bb rA rL rB fr beg ins ends com cod dat rr fi ra e (nI p) = some (-1, rA', rL', rB', fr', beg', ins', ends', com', cod', dat', rr', fi', ra') ∧
      ((∃ f, f ≤ 512 ∧ ∃ q u, f_La_instructionsFault bb rA' rL' rB' o0 r0 n0 b0 fr' ins' ends' e = some (nI f, q) ∧ f_Md_entry (nI e) (nI (p + 4)) (nI (p + 4 + N)) 0 kr pl mb begins isC common code data back first range frm to row crow kept (nI p) = some (nI f, u)) ∨
       (∃ (o r nn b kR pl' : Int32) (begins' isC' common' code' data' back' first' range' frm' to' row' kept' : Nat → Int32), f_La_instructionsFault bb rA' rL' rB' o0 r0 n0 b0 fr' ins' ends' e = some (-1, nI (p + 4 + N), nI (p + 4 + N), 0, o, r, nn, b) ∧ f_Md_entry (nI e) (nI (p + 4)) (nI (p + 4 + N)) 0 kr pl mb begins isC common code data back first range frm to row crow kept (nI p) = some (-1, nI (p + 4 + N), 0, kR, pl', begins', isC', common', code', data', back', first', range', frm', to', row', kept') ∧ ends' e = nI (p + 4 + N) ∧ (∀ i, i < e + 1 → pEnt bb S fr' beg' ins' ends' com' cod' dat' rr' fi' ra' begins' isC' common' code' data' back' first' range' frm' to' i) ∧ pBg begins' (e + 1) (p + 4 + N)))) := by
  have hee : ¬ (nI e < 0 ∨ 16 ≤ e) := by have := nI_in he (show 16 < 2 ^ 31 by omega); rw [nI_clamp (show e < 2 ^ 31 by omega)] at this; exact this
  have hG' : pBg (upd begins e (nI p)) (e + 1) (p + 4 + N) := by
    intro i hi
    by_cases h : i = e
    · subst h
      refine ⟨⟨p, by omega, upd_s _ _ _⟩, fun k hk => ?_⟩
      rw [upd_s, upd_n _ (by omega)]
      obtain ⟨b, hb, z⟩ := (hG k hk).1
      rw [z]
      exact fun y => absurd ((nI_eq (by omega) (by omega)).mp y) (by omega)
    · obtain ⟨⟨b, hb, z⟩, w⟩ := hG i (by omega)
      refine ⟨⟨b, by omega, by rw [upd_n _ h]; exact z⟩, fun k hk => ?_⟩
      rw [upd_n _ h, upd_n _ (by omega)]
      exact w k hk
  have hH : f_La_headFault (nI e) (nI S) bb rA rL rB fr beg ins ends com cod dat rr fi ra e (nI p) = if pU mb (p + 4) 4 = -1 then (f_La_headFault_127 (nI e) (nI S) bb (nI (p + 8)) (nI (p + 4 + N)) 0 fr (upd beg e (nI p)) ins (upd ends e (nI (p + 4 + N))) com cod dat rr fi ra e (nI p) (nI N) (nI (p + 4)) (pU mb (p + 4) 4) 0 e) else (f_La_headFault_127 (nI e) (nI S) bb (nI (p + 8)) (nI (p + 4 + N)) 0 fr (upd beg e (nI p)) ins (upd ends e (nI (p + 4 + N))) com cod dat rr fi ra e (nI p) (nI N) (nI (p + 4)) (pU mb (p + 4) 4) 1 e) := by
    unfold f_La_headFault f_Rd_open
    rw [Option.bind_some]
    dsimp only
    rw [show (4 : Int32) = nI 4 from rfl, p_uns hB (show p ≤ S by omega) hS (by omega), p_Muns mb 0 (show p ≤ S by omega) hS (by omega), if_pos (by omega), Option.bind_some]
    dsimp only
    rw [hv, if_pos rfl, if_neg (nI_nlt hN (by omega)), pk_sub (show p + 4 ≤ S by omega), if_pos (nI_le (show N ≤ S - (p + 4) by omega) (by omega)), Option.bind_some]
    dsimp only
    rw [nI_add, upd_s, p_uns hB (show p + 4 ≤ p + 4 + N by omega) (by omega) (by omega), p_Muns mb 0 (show p + 4 ≤ p + 4 + N by omega) (by omega) (by omega), if_pos (by omega), Option.bind_some]
  have hM : f_Md_entry (nI e) (nI (p + 4)) (nI (p + 4 + N)) 0 kr pl mb begins isC common code data back first range frm to row crow kept (nI p) = if pU mb (p + 4) 4 = -1 then f_Md_entry_56 LF (nI e) (nI (p + 8)) (nI (p + 4 + N)) 0 kr pl mb (upd begins e (nI p)) (upd isC e 1) (upd (upd common e (-1)) e (nI e)) code data back first range frm to row crow kept (nI p) (nI e) (pU mb (p + 4) 4) (nI 0) else f_Md_entry_56 LF (nI e) (nI (p + 8)) (nI (p + 4 + N)) 0 kr pl mb (upd begins e (nI p)) (upd isC e 0) (upd common e (-1)) code data back first range frm to row crow kept (nI p) (nI e) (pU mb (p + 4) 4) (nI 0) := by
    unfold f_Md_entry f_Md_entry_33
    rw [show (4 : Int32) = nI 4 from rfl, p_Muns mb 0 (show p + 4 ≤ p + 4 + N by omega) (by omega) (by omega), if_pos (by omega), Option.bind_some]
    dsimp only
    rw [if_neg (nI_in he (by omega)), nI_clamp (show e < 2 ^ 31 by omega)]
    by_cases hid : pU mb (p + 4) 4 = -1
    · rw [if_pos hid, if_pos hid, if_neg hee, if_neg hee, if_pos hid, if_neg hee]
      rfl
    · rw [if_neg hid, if_neg hid, if_neg hee, if_neg hee, if_neg hid]
      rfl
  obtain ⟨m, hm⟩ : ∃ m, LF = m + 1 + e := ⟨LF - e - 1, by unfold LF; omega⟩
  by_cases hid : pU mb (p + 4) 4 = -1
  · rw [if_pos hid] at hH hM
    have h56 := (p_56 (nI e) (nI (p + 8)) (nI (p + 4 + N)) 0 kr pl mb (upd begins e (nI p)) (upd isC e 1) code data back first range frm to row crow kept (nI p) (pU mb (p + 4) 4) he e (m + 1) 0 (upd (upd common e (-1)) e (nI e)) (by omega)).1 (fun i _ hi z => by
      obtain ⟨⟨b, hb, y⟩, -⟩ := hG i hi
      have := z.2
      rw [upd_n _ (by omega), y, hid] at this
      have h2 : nI b < 0 := by rw [this]; decide
      exact absurd h2 (nI_pos (by omega)))
    rw [← hm] at h56
    rw [h56, f_Md_entry_56, if_pos (nI_le (Nat.le_refl e) (by omega)), if_neg (nI_in he (by omega)), nI_clamp (show e < 2 ^ 31 by omega), upd_s, if_neg (show ¬ nI e = -1 from fun z => by
      have h2 : nI e < 0 := by rw [z]; decide
      exact absurd h2 (nI_pos (by omega))), if_neg hee, upd_s, if_neg (show ¬ (1 : Int32) = 0 by decide)] at hM
    unfold f_La_headFault_127 at hH
    rw [if_neg (show ¬ ¬ ((0 : Int32) = 0 ∨ (0 : Int32) = 1) from fun z => z (Or.inl rfl)), upd_s, if_pos rfl] at hH
    rw [hH, hM]
    rcases p_cHead hB (show p + 8 ≤ p + 4 + N by omega) (by omega) he ins cod dat rr code data back with ⟨f, hf, q, u, g1, g2⟩ | ⟨a', r, cv, dv, g1, g2, g3, g4, g5⟩
    · rw [g1, g2, Option.bind_some, Option.bind_some]
      unfold f_Md_entry_133
      dsimp only
      rw [if_neg (show ¬ nI f = -1 from fun z => by
        have h2 : nI f < 0 := by rw [z]; decide
        exact absurd h2 (nI_pos (by omega)))]
      exact Or.inl ⟨f, hf, _, _, rfl, rfl⟩
    · rw [g4, g5, Option.bind_some, Option.bind_some]
      dsimp only
      refine Or.inr ⟨_, _, _, _, _, _, _, _, _, _, _, _, _, rfl, ?_⟩
      rcases p_tail hB (c := e) g2 (show p + 4 + N ≤ 512 by omega) he he g3 (upd fr e 0) (upd ins e (nI a')) (upd ends e (nI (p + 4 + N))) (upd begins e (nI p)) (upd isC e 1) (upd (upd common e (-1)) e (nI e)) (upd code e cv) (upd data e dv) (upd back e (nI r)) first range frm to row crow kept (upd_s _ _ _) (upd_s _ _ _) (by rw [upd_s, upd_s]; decide) (upd_s _ _ _) (upd_s _ _ _) (nI e) kr pl (nI p) (pU mb (p + 4) 4) (nI e) o0 r0 n0 b0 (nI a') (nI (p + 4 + N)) 0 with h | ⟨o, r', nn, b, kR, pl', row', kept', k1, k2, k3⟩
      · exact Or.inl h
      · refine Or.inr ⟨o, r', nn, b, kR, pl', _, _, _, _, _, _, _, _, _, _, row', kept', k1, k2, upd_s _ _ _, ?_, hG'⟩
        intro i hi
        by_cases hie : i = e
        · subst hie
          rw [upd_s] at k3
          refine ⟨by rw [upd_s, upd_s]; decide, by rw [upd_s, upd_s], ⟨a', p + 4 + N, upd_s _ _ _, upd_s _ _ _, upd_s _ _ _, upd_s _ _ _, g2, by omega, by rw [upd_s]; exact k3⟩, ?_, ?_⟩
          · rw [upd_s]
            exact fun z => absurd z (by decide)
          · intro _
            exact ⟨by rw [upd_s, upd_s], by rw [upd_s, upd_s], upd_s _ _ _, r, g3, upd_s _ _ _, upd_s _ _ _⟩
        · refine p_entC (hE i (by omega)) (fun j hj => ?_)
          have hje : j ≠ e := by omega
          simp only [upd_n _ hje, and_self]
  · rw [if_neg hid] at hH hM
    unfold f_La_headFault_127 at hH
    rw [if_neg (show ¬ ¬ ((1 : Int32) = 0 ∨ (1 : Int32) = 1) from fun z => z (Or.inr rfl)), upd_s, if_neg (show ¬ (1 : Int32) = 0 by decide)] at hH
    have hP : ∀ i, i < e → ((upd fr e 1 i = 0 ∧ upd beg e (nI p) i = pU mb (p + 4) 4) ↔ (¬ upd isC e 0 i = 0 ∧ upd begins e (nI p) i = pU mb (p + 4) 4)) := by
      intro i hi
      obtain ⟨z1, z2, -⟩ := hE i hi
      rw [upd_n _ (by omega), upd_n _ (by omega), upd_n _ (by omega), upd_n _ (by omega), z1, z2]
    by_cases hex : ∃ j, j < e ∧ ¬ upd isC e 0 j = 0 ∧ upd begins e (nI p) j = pU mb (p + 4) 4
    · obtain ⟨j, hj, hj1, hj2⟩ := hex
      have hun : ∀ i, i < e → i ≠ j → ¬ (¬ upd isC e 0 i = 0 ∧ upd begins e (nI p) i = pU mb (p + 4) 4) := by
        intro i hi hij z
        have z2 := z.2.trans hj2.symm
        rcases Nat.lt_or_gt_of_ne hij with q | q
        · exact (hG' j (by omega)).2 i q z2
        · exact (hG' i (by omega)).2 j q z2.symm
      have hc1 : f_La_commonAt (nI e) (upd fr e 1) (upd beg e (nI p)) (pU mb (p + 4) 4) = some (nI j) := (p_cAt (Nat.le_of_lt he) _ e LF 0 (by omega) (by unfold LF; omega)).2 j (by omega) hj ((hP j hj).mpr ⟨hj1, hj2⟩).1 ((hP j hj).mpr ⟨hj1, hj2⟩).2 (fun i _ hi z => hun i (by omega) (by omega) ((hP i (by omega)).mp z))
      have h56 := (p_56 (nI e) (nI (p + 8)) (nI (p + 4 + N)) 0 kr pl mb (upd begins e (nI p)) (upd isC e 0) code data back first range frm to row crow kept (nI p) (pU mb (p + 4) 4) he e (m + 1) 0 (upd common e (-1)) (by omega)).2 j (by omega) hj hj1 hj2 (fun i _ hi hij => hun i hi hij)
      have hjm : ¬ nI j = -1 := fun z => by
        have h2 : nI j < 0 := by rw [z]; decide
        exact absurd h2 (nI_pos (by omega))
      rw [← hm] at h56
      rw [h56, f_Md_entry_56, if_pos (nI_le (Nat.le_refl e) (by omega)), if_neg (nI_in he (by omega)), nI_clamp (show e < 2 ^ 31 by omega), upd_s, if_neg hjm, if_neg hee, upd_s, if_pos rfl] at hM
      rw [hc1, Option.bind_some, if_neg hjm] at hH
      rw [hH, hM]
      have hjC : ¬ isC j = 0 := by rw [upd_n _ (by omega)] at hj1; exact hj1
      obtain ⟨-, -, -, -, hjR⟩ := hE j hj
      obtain ⟨-, -, -, r, hr, -, hjr⟩ := hjR hjC
      rcases p_fHead hB (show p + 8 ≤ p + 4 + N by omega) (by omega) he ins fi ra first range with ⟨f, hf, q, u, g1, g2⟩ | ⟨a', fv, rv, g1, g2, g4, g5⟩
      · rw [g1, g2, Option.bind_some, Option.bind_some]
        unfold f_Md_entry_133
        dsimp only
        rw [if_neg (show ¬ nI f = -1 from fun z => by
          have h2 : nI f < 0 := by rw [z]; decide
          exact absurd h2 (nI_pos (by omega)))]
        exact Or.inl ⟨f, hf, _, _, rfl, rfl⟩
      · rw [g4, g5, Option.bind_some, Option.bind_some]
        dsimp only
        refine Or.inr ⟨_, _, _, _, _, _, _, _, _, _, _, _, _, rfl, ?_⟩
        rcases p_tail hB (c := j) g2 (show p + 4 + N ≤ 512 by omega) he (by omega) hr (upd fr e 1) (upd ins e (nI a')) (upd ends e (nI (p + 4 + N))) (upd begins e (nI p)) (upd isC e 0) (upd (upd common e (-1)) e (nI j)) code data back (upd first e fv) (upd range e rv) frm to row crow kept (upd_s _ _ _) hjr (by rw [upd_s, upd_s]; decide) (upd_s _ _ _) (upd_s _ _ _) (nI e) kr pl (nI p) (pU mb (p + 4) 4) (nI e) o0 r0 n0 b0 (nI a') (nI (p + 4 + N)) 0 with h | ⟨o, r', nn, b, kR, pl', row', kept', k1, k2, k3⟩
        · exact Or.inl h
        · refine Or.inr ⟨o, r', nn, b, kR, pl', _, _, _, _, _, _, _, _, _, _, row', kept', k1, k2, upd_s _ _ _, ?_, hG'⟩
          intro i hi
          by_cases hie : i = e
          · subst hie
            rw [upd_s] at k3
            refine ⟨by rw [upd_s, upd_s]; decide, by rw [upd_s, upd_s], ⟨a', p + 4 + N, upd_s _ _ _, upd_s _ _ _, upd_s _ _ _, upd_s _ _ _, g2, by omega, by rw [upd_s]; exact k3⟩, ?_, ?_⟩
            · intro _
              exact ⟨by rw [upd_s, upd_s], by rw [upd_s, upd_s], j, hj, upd_s _ _ _, upd_s _ _ _, hj1⟩
            · rw [upd_s]
              exact fun z => absurd rfl z
          · refine p_entC (hE i (by omega)) (fun j' hj' => ?_)
            have hje : j' ≠ e := by omega
            simp only [upd_n _ hje, and_self]
    · have hno : ∀ i, i < e → ¬ (¬ upd isC e 0 i = 0 ∧ upd begins e (nI p) i = pU mb (p + 4) 4) := fun i hi z => hex ⟨i, hi, z⟩
      have hc1 : f_La_commonAt (nI e) (upd fr e 1) (upd beg e (nI p)) (pU mb (p + 4) 4) = some (-1) := (p_cAt (Nat.le_of_lt he) _ e LF 0 (by omega) (by unfold LF; omega)).1 (fun i _ hi z => hno i hi ((hP i hi).mp z))
      have h56 := (p_56 (nI e) (nI (p + 8)) (nI (p + 4 + N)) 0 kr pl mb (upd begins e (nI p)) (upd isC e 0) code data back first range frm to row crow kept (nI p) (pU mb (p + 4) 4) he e (m + 1) 0 (upd common e (-1)) (by omega)).1 (fun i _ hi => hno i hi)
      rw [← hm] at h56
      rw [h56, f_Md_entry_56, if_pos (nI_le (Nat.le_refl e) (by omega)), if_neg (nI_in he (by omega)), nI_clamp (show e < 2 ^ 31 by omega), upd_s, if_pos rfl, show nI p + 4 = nI (p + 4) from nI_add p 4] at hM
      rw [hc1, Option.bind_some, if_pos rfl] at hH
      rw [hH, hM]
      exact Or.inl ⟨p + 4, by omega, _, _, rfl, rfl⟩
