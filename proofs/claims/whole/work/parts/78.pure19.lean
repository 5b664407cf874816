/-! PURE: the section, class against model -/
theorem p_lookL {mb bb : Nat → Int32} (hB : pB mb bb) {S : Nat} (hS : S ≤ 512) (crow : Nat → Int32) : ∀ (k e p n m : Nat) (rA rL rB o0 r0 n0 b0 at0 lim0 bad0 kr pl : Int32) (fr beg ins ends com cod dat rr fi ra begins isC common code data back first range frm to row kept : Nat → Int32), e + k = 16 → p ≤ S → k < n → k < m → (∀ i, i < e → pEnt bb S fr beg ins ends com cod dat rr fi ra begins isC common code data back first range frm to i) → pBg begins e p →
    (∃ f, f ≤ 512 ∧ ∃ q u, f_La_firstFault_9 n (nI e) (nI S) bb rA rL rB o0 r0 n0 b0 fr beg ins ends com cod dat rr fi ra (nI p) (nI e) = some (nI f, q) ∧ f_Md_look_7 m (nI S) (nI e) at0 lim0 bad0 kr pl mb begins isC common code data back first range frm to row crow kept (nI p) = some (nI f, u)) ∨
    (∃ (N : Nat) (rA' rL' rB' o' r' n' b' at' lim' bad' kr' pl' : Int32) (fr' beg' ins' ends' com' cod' dat' rr' fi' ra' begins' isC' common' code' data' back' first' range' frm' to' row' kept' : Nat → Int32), N ≤ 16 ∧ f_La_firstFault_9 n (nI e) (nI S) bb rA rL rB o0 r0 n0 b0 fr beg ins ends com cod dat rr fi ra (nI p) (nI e) = some (-1, nI N, rA', rL', rB', o', r', n', b', fr', beg', ins', ends', com', cod', dat', rr', fi', ra') ∧ f_Md_look_7 m (nI S) (nI e) at0 lim0 bad0 kr pl mb begins isC common code data back first range frm to row crow kept (nI p) = some (-1, nI N, at', lim', bad', kr', pl', begins', isC', common', code', data', back', first', range', frm', to', row', kept') ∧ ∀ i, i < N → pEnt bb S fr' beg' ins' ends' com' cod' dat' rr' fi' ra' begins' isC' common' code' data' back' first' range' frm' to' i) := by
  have hm : ∀ f : Nat, f ≤ 512 → ¬ nI f = -1 := fun f hf z => by
    have h2 : nI f < 0 := by rw [z]; decide
    exact absurd h2 (nI_pos (by omega))
  intro k
  induction k with
  | zero =>
    intro e p n m rA rL rB o0 r0 n0 b0 at0 lim0 bad0 kr pl fr beg ins ends com cod dat rr fi ra begins isC common code data back first range frm to row kept h1 h2 h3 h4 h5 h6
    obtain rfl : e = 16 := by omega
    match n, m, h3, h4 with
    | n + 1, m + 1, _, _ =>
      rw [f_La_firstFault_9, f_Md_look_7, if_pos (show (16 : Int32) ≤ nI 16 by decide)]
      by_cases hp : S ≤ p
      · rw [if_pos (nI_le hp (by omega)), if_pos (nI_le hp (by omega))]
        exact Or.inr ⟨16, _, _, _, _, _, _, _, _, _, _, _, _, _, _, _, _, _, _, _, _, _, _, _, _, _, _, _, _, _, _, _, _, _, _, by omega, rfl, rfl, h5⟩
      · rw [if_neg (nI_ge (show p < S by omega) (by omega)), if_neg (nI_ge (show p < S by omega) (by omega)), show (4 : Int32) = nI 4 from rfl, p_Muns mb 0 (show p ≤ S by omega) hS (by omega)]
        by_cases h7 : p + 4 ≤ S
        · rw [if_pos h7, Option.bind_some]
          dsimp only
          rw [if_pos rfl]
          by_cases h8 : pU mb p 4 < nI 4
          · rw [if_pos h8]; exact Or.inl ⟨p, by omega, _, _, rfl, rfl⟩
          · rw [if_neg h8]
            by_cases h9 : nI S - nI (p + 4) < pU mb p 4
            · rw [if_pos h9]; exact Or.inl ⟨p, by omega, _, _, rfl, rfl⟩
            · rw [if_neg h9, if_pos (show nI 16 = 16 from rfl)]; exact Or.inl ⟨p, by omega, _, _, rfl, rfl⟩
        · rw [if_neg h7, Option.bind_some]
          dsimp only
          rw [if_neg (by decide)]
          exact Or.inl ⟨p, by omega, _, _, rfl, rfl⟩
  | succ k ih =>
    intro e p n m rA rL rB o0 r0 n0 b0 at0 lim0 bad0 kr pl fr beg ins ends com cod dat rr fi ra begins isC common code data back first range frm to row kept h1 h2 h3 h4 h5 h6
    match n, m, h3, h4 with
    | n + 1, m + 1, h3, h4 =>
      rw [f_La_firstFault_9, f_Md_look_7, if_neg (show ¬ (16 : Int32) ≤ nI e from nI_ge (b := 16) (by omega) (by omega))]
      by_cases hp : S ≤ p
      · rw [if_pos (nI_le hp (by omega)), if_pos (nI_le hp (by omega)), if_pos (nI_le hp (by omega))]
        exact Or.inr ⟨e, _, _, _, _, _, _, _, _, _, _, _, _, _, _, _, _, _, _, _, _, _, _, _, _, _, _, _, _, _, _, _, _, _, _, by omega, rfl, rfl, h5⟩
      · rw [if_neg (nI_ge (show p < S by omega) (by omega)), if_neg (nI_ge (show p < S by omega) (by omega)), if_neg (nI_in (show e < 16 by omega) (by omega)), nI_clamp (show e < 2 ^ 31 by omega)]
        have hH : (pU mb p 4 < 4 ∨ nI S - nI (p + 4) < pU mb p 4 ∨ ¬ p + 4 ≤ S) → ∃ q, f_La_headFault (nI e) (nI S) bb rA rL rB fr beg ins ends com cod dat rr fi ra e (nI p) = some (nI p, q) := by
          intro h
          unfold f_La_headFault f_Rd_open
          rw [Option.bind_some]
          dsimp only
          rw [show (4 : Int32) = nI 4 from rfl, p_uns hB (show p ≤ S by omega) hS (by omega), p_Muns mb 0 (show p ≤ S by omega) hS (by omega)]
          by_cases h7 : p + 4 ≤ S
          · rw [if_pos h7, Option.bind_some]
            dsimp only
            rw [if_pos rfl]
            by_cases h8 : pU mb p 4 < nI 4
            · rw [if_pos h8]; exact ⟨_, rfl⟩
            · rw [if_neg h8]
              have h9 : nI S - nI (p + 4) < pU mb p 4 := by
                rcases h with h | h | h
                · exact absurd h h8
                · exact h
                · exact absurd h7 h
              rw [if_neg (fun z => by rw [Int32.lt_iff_toInt_lt] at h9; rw [Int32.le_iff_toInt_le] at z; omega)]
              exact ⟨_, rfl⟩
          · rw [if_neg h7, Option.bind_some]
            dsimp only
            rw [if_neg (by decide)]
            exact ⟨_, rfl⟩
        rw [show (f_Md_unsigned (nI p) (nI S) 0 mb 4) = _ from p_Muns mb 0 (show p ≤ S by omega) hS (c := 4) (by omega)]
        by_cases h7 : p + 4 ≤ S
        · rw [if_pos h7, Option.bind_some]
          dsimp only
          rw [if_pos rfl]
          by_cases h8 : pU mb p 4 < 4
          · obtain ⟨q, hq⟩ := hH (Or.inl h8)
            rw [if_pos h8, hq, Option.bind_some]
            dsimp only
            rw [if_neg (hm p (by omega)), if_neg (hm p (by omega))]; exact Or.inl ⟨p, by omega, _, _, rfl, rfl⟩
          · rw [if_neg h8]
            by_cases h9 : nI S - nI (p + 4) < pU mb p 4
            · obtain ⟨q, hq⟩ := hH (Or.inr (Or.inl h9))
              rw [if_pos h9, hq, Option.bind_some]
              dsimp only
              rw [if_neg (hm p (by omega)), if_neg (hm p (by omega))]; exact Or.inl ⟨p, by omega, _, _, rfl, rfl⟩
            · rw [if_neg h9, if_neg (show ¬ nI e = (16 : Int32) from fun z => absurd ((nI_eq (b := 16) (by omega) (by omega)).mp z) (by omega))]
              obtain ⟨N, hN1, hN2⟩ : ∃ N, N ≤ S - (p + 4) ∧ pU mb p 4 = nI N := by
                rw [pk_sub h7] at h9
                have e4 : (4 : Int32).toInt = 4 := by decide
                have e0 : (0 : Int32).toInt = 0 := by decide
                exact nI_of2 (M := nI (S - (p + 4))) (nI_toInt (by omega)) (fun z => h8 (by rw [Int32.lt_iff_toInt_lt] at z ⊢; omega)) (by rw [Int32.lt_iff_toInt_lt] at h9; rw [Int32.le_iff_toInt_le]; omega)
              have hN4 : 4 ≤ N := by
                rcases Nat.lt_or_ge N 4 with q | q
                · rw [hN2] at h8
                  exact absurd (nI_lt (b := 4) q (by omega)) h8
                · exact q
              rw [hN2, nI_add, nI_1]
              rcases p_entry hB hN4 (show p + 4 + N ≤ S by omega) hS (show e < 16 by omega) hN2 fr beg ins ends com cod dat rr fi ra begins isC common code data back first range frm to row crow kept h5 h6 kr pl o0 r0 n0 b0 rA rL rB with ⟨f, hf, q, u, g1, g2⟩ | ⟨rA', rL', rB', fr', beg', ins', ends', com', cod', dat', rr', fi', ra', g1, ⟨f, hf, q, u, g2, g3⟩ | ⟨o, r, nn, b, kR, pl', begins', isC', common', code', data', back', first', range', frm', to', row', kept', g2, g3, g4, g5, g6⟩⟩
              · rw [g1, g2, Option.bind_some, Option.bind_some]
                dsimp only
                rw [if_neg (hm f hf), if_neg (hm f hf), if_neg (hm f hf)]
                exact Or.inl ⟨f, hf, _, _, rfl, rfl⟩
              · rw [g1, g3, Option.bind_some, Option.bind_some]
                dsimp only
                rw [if_pos rfl, if_neg (hm f hf), g2, Option.bind_some]
                dsimp only
                rw [if_neg (hm f hf)]
                exact Or.inl ⟨f, hf, _, _, rfl, rfl⟩
              · rw [g1, g3, Option.bind_some, Option.bind_some]
                dsimp only
                rw [if_pos rfl, if_pos rfl, g2, Option.bind_some]
                dsimp only
                rw [if_pos rfl, g4]
                exact ih (e + 1) (p + 4 + N) n m _ _ _ _ _ _ _ _ _ _ _ _ fr' beg' ins' ends' com' cod' dat' rr' fi' ra' begins' isC' common' code' data' back' first' range' frm' to' row' kept' (by omega) (by omega) (by omega) (by omega) g5 g6
        · obtain ⟨q, hq⟩ := hH (Or.inr (Or.inr h7))
          rw [if_neg h7, hq, Option.bind_some, Option.bind_some]
          dsimp only
          rw [if_neg (hm p (by omega)), if_neg (hm p (by omega)), if_neg (by decide)]; exact Or.inl ⟨p, by omega, _, _, rfl, rfl⟩
theorem p_look {mb bb : Nat → Int32} (hB : pB mb bb) {S : Nat} (hS : S ≤ 512) (cnt rA rL rB o0 r0 n0 b0 en0 at0 lim0 bad0 kr pl : Int32) (fr beg ins ends com cod dat rr fi ra begins isC common code data back first range frm to row crow kept : Nat → Int32) :
    (∃ f, f ≤ 512 ∧ ∃ q u, f_La_firstFault cnt (nI S) bb rA rL rB o0 r0 n0 b0 fr beg ins ends com cod dat rr fi ra = some (nI f, q) ∧ f_Md_look (nI S) en0 at0 lim0 bad0 kr pl mb begins isC common code data back first range frm to row crow kept = some (nI f, u)) ∨
    (∃ (N : Nat) (rA' rL' rB' o' r' n' b' at' lim' bad' kr' pl' : Int32) (fr' beg' ins' ends' com' cod' dat' rr' fi' ra' begins' isC' common' code' data' back' first' range' frm' to' row' kept' : Nat → Int32), N ≤ 16 ∧ f_La_firstFault cnt (nI S) bb rA rL rB o0 r0 n0 b0 fr beg ins ends com cod dat rr fi ra = some (-1, nI N, rA', rL', rB', o', r', n', b', fr', beg', ins', ends', com', cod', dat', rr', fi', ra') ∧ f_Md_look (nI S) en0 at0 lim0 bad0 kr pl mb begins isC common code data back first range frm to row crow kept = some (-1, nI N, at', lim', bad', kr', pl', begins', isC', common', code', data', back', first', range', frm', to', row', kept') ∧ ∀ i, i < N → pEnt bb S fr' beg' ins' ends' com' cod' dat' rr' fi' ra' begins' isC' common' code' data' back' first' range' frm' to' i) :=
  p_lookL hB hS crow 16 0 0 LF LF rA rL rB o0 r0 n0 b0 at0 lim0 bad0 kr pl fr beg ins ends com cod dat rr fi ra begins isC common code data back first range frm to row kept (by omega) (by omega) (by unfold LF; omega) (by unfold LF; omega) (fun i hi => absurd hi (by omega)) (fun i hi => absurd hi (by omega))
