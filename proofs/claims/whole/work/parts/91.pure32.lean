/-! PURE: the calls that look through the section, class against model -/
theorem p_faultB {mb bb : Nat → Int32} (hB : pB mb bb) {sz msz : Int32} (hs : pSz sz msz) (rA rL rB cnt lo lr ln lb thr ent at0 lim0 bad0 kr pl : Int32) (fr beg ins ends com cod dat rr fi ra begins isC common code data back first range frm to row crow kept : Nat → Int32) : ∃ r s, f_Fu_fault sz bb rA rL rB cnt lo lr ln lb fr beg ins ends com cod dat rr fi ra = some r ∧ f_Md_fault thr msz ent at0 lim0 bad0 kr pl mb begins isC common code data back first range frm to row crow kept = some s ∧ r.1 = s.1 := by
  obtain ⟨S, hS, rfl, rfl⟩ := hs
  unfold f_Fu_fault f_Md_fault
  rcases p_look hB hS cnt rA rL rB lo lr ln lb ent at0 lim0 bad0 kr pl fr beg ins ends com cod dat rr fi ra begins isC common code data back first range frm to row crow kept with ⟨f, hf, q, v, g1, g2⟩ | ⟨N, rA', rL', rB', o', r', n', b', at', lim', bad', kr', pl', fr', beg', ins', ends', com', cod', dat', rr', fi', ra', begins', isC', common', code', data', back', first', range', frm', to', row', kept', hN, g1, g2, g3⟩
  · rw [g1, g2, Option.bind_some, Option.bind_some]
    exact ⟨_, _, rfl, rfl, rfl⟩
  · rw [g1, g2, Option.bind_some, Option.bind_some]
    exact ⟨_, _, rfl, rfl, rfl⟩
theorem p_entriesB {mb bb : Nat → Int32} (hB : pB mb bb) {sz msz : Int32} (hs : pSz sz msz) (rA rL rB cnt lo lr ln lb thr ent at0 lim0 bad0 kr pl : Int32) (fr beg ins ends com cod dat rr fi ra begins isC common code data back first range frm to row crow kept : Nat → Int32) : ∃ r s, f_Fu_entries sz bb rA rL rB cnt lo lr ln lb fr beg ins ends com cod dat rr fi ra = some r ∧ f_Md_entries thr msz ent at0 lim0 bad0 kr pl mb begins isC common code data back first range frm to row crow kept = some s ∧ r.1 = s.1 := by
  obtain ⟨S, hS, rfl, rfl⟩ := hs
  unfold f_Fu_entries f_Md_entries
  rcases p_look hB hS cnt rA rL rB lo lr ln lb ent at0 lim0 bad0 kr pl fr beg ins ends com cod dat rr fi ra begins isC common code data back first range frm to row crow kept with ⟨f, hf, q, v, g1, g2⟩ | ⟨N, rA', rL', rB', o', r', n', b', at', lim', bad', kr', pl', fr', beg', ins', ends', com', cod', dat', rr', fi', ra', begins', isC', common', code', data', back', first', range', frm', to', row', kept', hN, g1, g2, g3⟩
  · rw [g1, g2, Option.bind_some, Option.bind_some]
    dsimp only
    rw [if_neg (show ¬ nI f = -1 from fun z => absurd (show nI f < 0 by rw [z]; decide) (nI_pos (by omega))), if_neg (show ¬ nI f = -1 from fun z => absurd (show nI f < 0 by rw [z]; decide) (nI_pos (by omega)))]
    exact ⟨_, _, rfl, rfl, rfl⟩
  · rw [g1, g2, Option.bind_some, Option.bind_some]
    dsimp only
    rw [if_pos rfl, if_pos rfl]
    exact ⟨_, _, rfl, rfl, rfl⟩
theorem p_findB {mb bb : Nat → Int32} (hB : pB mb bb) {sz msz : Int32} (hs : pSz sz msz) (out : Nat → Int64) (rA rL rB cnt lo lr ln lb thr ent at0 lim0 bad0 kr pl x : Int32) (fr beg ins ends com cod dat rr fi ra begins isC common code data back first range frm to row crow kept : Nat → Int32) : ∃ r s, f_Lw_find sz bb rA rL rB cnt lo lr ln lb out fr beg ins ends com cod dat rr fi ra x = some r ∧ f_Md_find thr msz ent at0 lim0 bad0 kr pl mb begins isC common code data back first range frm to row crow kept x = some s ∧ s.2.1 = r.1 ∧ (r.1 = 0 → lg_cmp (r.2.2.2.2.2.2.2.2.2.1 (0 : Int32).toNatClampNeg) s.1.toInt64 = 0) := by
  obtain ⟨S, hS, rfl, rfl⟩ := hs
  unfold f_Lw_find f_Fu_find f_Md_find
  rcases p_look hB hS cnt rA rL rB lo lr ln lb ent at0 lim0 bad0 kr pl fr beg ins ends com cod dat rr fi ra begins isC common code data back first range frm to row crow kept with ⟨f, hf, q, v, g1, g2⟩ | ⟨N, rA', rL', rB', o', r', n', b', at', lim', bad', kr', pl', fr', beg', ins', ends', com', cod', dat', rr', fi', ra', begins', isC', common', code', data', back', first', range', frm', to', row', kept', hN, g1, g2, g3⟩
  · rw [g1, g2, Option.bind_some, Option.bind_some]
    dsimp only
    rw [if_neg (show ¬ nI f = -1 from fun z => absurd (show nI f < 0 by rw [z]; decide) (nI_pos (by omega))), if_neg (show ¬ nI f = -1 from fun z => absurd (show nI f < 0 by rw [z]; decide) (nI_pos (by omega))), Option.bind_some]
    exact ⟨_, _, rfl, rfl, rfl, fun z => absurd (show (1 : Int32) = 0 from z) (by decide)⟩
  · obtain ⟨e, k1, k2, k3⟩ := p_index hN (fun i hi => ⟨(g3 i hi).1, fun z => ⟨((g3 i hi).2.2.2.1 z).1, ((g3 i hi).2.2.2.1 z).2.1⟩⟩) x
    rw [g1, g2, Option.bind_some, Option.bind_some]
    dsimp only
    rw [if_pos rfl, if_pos rfl, k1, k2, Option.bind_some, Option.bind_some, Option.bind_some]
    exact ⟨_, _, rfl, rfl, rfl, fun _ => p_out out e⟩
theorem p_entAt {mb bb : Nat → Int32} (hB : pB mb bb) {S N e : Nat} (hS : S ≤ 512) (hN : N ≤ 16) {fr beg ins ends com cod dat rr fi ra begins isC common code data back first range frm to : Nat → Int32} (hE : ∀ i, i < N → pEnt bb S fr beg ins ends com cod dat rr fi ra begins isC common code data back first range frm to i) (he : e < N) (hi : isC e = 0) : ∃ c q, c < 16 ∧ q < 8 ∧ com e = nI c ∧ common e = nI c ∧ rr c = nI q ∧ back c = nI q ∧ ∀ (rok ron ros cok con cos r0k r0n r0s r1k r1n r1s r2k r2n r2s r3k r3n r3s row crow kept : Nat → Int32) (dp pl rA rL rB o0 r0 n0 b0 at0 lim0 bad0 kr pl0 p : Int32), ∃ (v1 v2 v3 v4 v5 o' r' nn' b' u1 u2 u3 u4 u5 : Int32) (row' crow' kept' rok' ron' ros' cok' con' cos' x0k x0n x0s x1k x1n x1s x2k x2n x2s x3k x3n x3s : Nat → Int32), f_Tr_rowAt dp pl rA rL rB bb o0 r0 n0 b0 rok ron ros cok con cos r0k r0n r0s r1k r1n r1s r2k r2n r2s r3k r3n r3s ins ends cod dat rr fi e c p = some (v1, v2, v3, v4, v5, o', r', nn', b', rok', ron', ros', cok', con', cos', x0k, x0n, x0s, x1k, x1n, x1s, x2k, x2n, x2s, x3k, x3n, x3s) ∧ f_Md_rowAt at0 lim0 bad0 kr pl0 mb isC common code data back first frm to row crow kept (nI e) p = some (u1, u2, u3, u4, u5, row', crow', kept') ∧ pRow row' rok' ron' ros' ∧ pRf S row' := by
  obtain ⟨a1, a2, a3, a4, a5⟩ := hE e he
  obtain ⟨d1, d2, c, d3, d4, d5, d6⟩ := a4 hi
  obtain ⟨b1, b2, b3, b4, b5⟩ := hE c (by omega)
  obtain ⟨f1, f2, f3, q, f4, f5, f6⟩ := b5 d6
  refine ⟨c, q, by omega, f4, d4, d5, f5, f6, ?_⟩
  intro rok ron ros cok con cos r0k r0n r0s r1k r1n r1s r2k r2n r2s r3k r3n r3s row crow kept dp pl rA rL rB o0 r0 n0 b0 at0 lim0 bad0 kr pl0 p
  exact p_rowAt hB hS (by omega) (by omega) f4 isC common code data back first frm to row crow kept ins ends cod dat rr fi rok ron ros cok con cos r0k r0n r0s r1k r1n r1s r2k r2n r2s r3k r3n r3s d5 f3 d6 f1 f2 f5 f6 d1 a3 b3 dp pl rA rL rB o0 r0 n0 b0 at0 lim0 bad0 kr pl0 p
theorem p_part9 {k : Nat} (hk : k < 9) (tk tn ts : Nat → Int32) (w : Int32) : f_Ro_part tk tn ts (nI k) w = some (if w = 0 then tk k else if w = 1 then tn k else ts k) := by
  unfold f_Ro_part
  rw [if_neg (nI_in hk (by omega)), if_neg (nI_in hk (by omega)), if_neg (nI_in hk (by omega)), nI_clamp (by omega)]
  by_cases z : w = 0
  · rw [if_pos z, if_pos z]
  · rw [if_neg z, if_neg z]
    by_cases z1 : w = 1
    · rw [if_pos z1, if_pos z1]
    · rw [if_neg z1, if_neg z1]
theorem p_rowB {mb bb : Nat → Int32} (hB : pB mb bb) {sz msz : Int32} (hs : pSz sz msz) (out : Nat → Int64) (rA rL rB cnt lo lr ln lb td tp to_ tr_ tn_ tb_ thr ent at0 lim0 bad0 kr pl x y z : Int32) (rok ron ros cok con cos r0k r0n r0s r1k r1n r1s r2k r2n r2s r3k r3n r3s fr beg ins ends com cod dat rr fi ra begins isC common code data back first range frm to row crow kept : Nat → Int32) : ∃ r s, f_Lw_row sz bb rA rL rB cnt lo lr ln lb td tp to_ tr_ tn_ tb_ rok ron ros cok con cos r0k r0n r0s r1k r1n r1s r2k r2n r2s r3k r3n r3s out fr beg ins ends com cod dat rr fi ra x y z = some r ∧ f_Md_row thr msz ent at0 lim0 bad0 kr pl mb begins isC common code data back first range frm to row crow kept x y z = some s ∧ s.2.1 = r.1 ∧ (r.1 = 0 → lg_cmp (r.2.2.2.2.2.2.2.2.2.2.2.2.2.2.2.2.2.2.2.2.2.2.2.2.2.2.2.2.2.2.2.2.2.1 (0 : Int32).toNatClampNeg) s.1.toInt64 = 0) := by
  obtain ⟨S, hS, rfl, rfl⟩ := hs
  unfold f_Lw_row f_Fu_row f_Md_row f_Md_row_14
  rcases p_look hB hS cnt rA rL rB lo lr ln lb ent at0 lim0 bad0 kr pl fr beg ins ends com cod dat rr fi ra begins isC common code data back first range frm to row crow kept with ⟨f, hf, q, v, g1, g2⟩ | ⟨N, rA', rL', rB', o', r', n', b', at', lim', bad', kr', pl', fr', beg', ins', ends', com', cod', dat', rr', fi', ra', begins', isC', common', code', data', back', first', range', frm', to', row', kept', hN, g1, g2, g3⟩
  · rw [g1, g2, Option.bind_some, Option.bind_some]
    dsimp only
    rw [if_neg (show ¬ nI f = -1 from fun z => absurd (show nI f < 0 by rw [z]; decide) (nI_pos (by omega))), if_neg (show ¬ nI f = -1 from fun z => absurd (show nI f < 0 by rw [z]; decide) (nI_pos (by omega))), if_neg (by decide), Option.bind_some]
    exact ⟨_, _, rfl, rfl, rfl, fun z => absurd (show (1 : Int32) = 0 from z) (by decide)⟩
  · obtain ⟨i, k1, k2, k3⟩ := p_index hN (fun i hi => ⟨(g3 i hi).1, fun z => ⟨((g3 i hi).2.2.2.1 z).1, ((g3 i hi).2.2.2.1 z).2.1⟩⟩) x
    rw [g1, g2, Option.bind_some, Option.bind_some]
    dsimp only
    rw [if_pos rfl, if_pos rfl, if_pos rfl, k1, k2, Option.bind_some, Option.bind_some]
    rcases k3 with rfl | ⟨e, he, rfl, hi⟩
    · rw [if_pos rfl, if_pos rfl, Option.bind_some]
      unfold f_Md_row_68
      rw [if_neg (by decide)]
      exact ⟨_, _, rfl, rfl, rfl, fun z => absurd (show (2 : Int32) = 0 from z) (by decide)⟩
    · have hem : ¬ nI e = -1 := fun z => absurd (show nI e < 0 by rw [z]; decide) (nI_pos (by omega))
      rw [if_neg hem, if_neg hem, p_win, Option.bind_some]
      unfold f_Md_row_68
      by_cases y1 : y < -1
      · rw [if_pos y1, if_pos y1, if_pos rfl, Option.bind_some, if_neg (by decide)]
        exact ⟨_, _, rfl, rfl, rfl, fun z => absurd (show (3 : Int32) = 0 from z) (by decide)⟩
      · rw [if_neg y1, if_neg y1]
        by_cases y2 : 8 ≤ y
        · have y3 : (7 : Int32) < y := by
            rw [Int32.lt_iff_toInt_lt]
            rw [Int32.le_iff_toInt_le] at y2
            have e7 : (7 : Int32).toInt = 7 := by decide
            have e8 : (8 : Int32).toInt = 8 := by decide
            omega
          rw [if_pos y2, if_pos y3, if_pos rfl, Option.bind_some, if_neg (by decide)]
          exact ⟨_, _, rfl, rfl, rfl, fun z => absurd (show (3 : Int32) = 0 from z) (by decide)⟩
        · have y3 : ¬ (7 : Int32) < y := fun w => by
            rw [Int32.lt_iff_toInt_lt] at w
            rw [Int32.le_iff_toInt_le] at y2
            have e7 : (7 : Int32).toInt = 7 := by decide
            have e8 : (8 : Int32).toInt = 8 := by decide
            omega
          rw [if_neg y2, if_neg y3, if_neg (show ¬ (1 : Int32) = 0 by decide), p_win, Option.bind_some]
          by_cases z1 : z < 0
          · rw [if_pos z1, if_pos z1, if_pos rfl, Option.bind_some, if_neg (by decide)]
            exact ⟨_, _, rfl, rfl, rfl, fun z => absurd (show (3 : Int32) = 0 from z) (by decide)⟩
          · rw [if_neg z1, if_neg z1]
            by_cases z2 : z ≤ 2
            · have z3 : ¬ (2 : Int32) < z := fun w => by
                rw [Int32.lt_iff_toInt_lt] at w
                rw [Int32.le_iff_toInt_le] at z2
                omega
              obtain ⟨c, q, hc, hq, e1, e2, e3, e4, e5⟩ := p_entAt hB hS hN g3 he hi
              obtain ⟨v1, v2, v3, v4, v5, oq, rq, nq, bq, u1, u2, u3, u4, u5, row2, crow2, kept2, rok', ron', ros', cok', con', cos', x0k, x0n, x0s, x1k, x1n, x1s, x2k, x2n, x2s, x3k, x3n, x3s, w1, w2, w3, w4⟩ := e5 rok ron ros cok con cos r0k r0n r0s r1k r1n r1s r2k r2n r2s r3k r3n r3s row' crow kept' td tp rA' rL' rB' to_ tr_ tn_ tb_ at' lim' bad' kr' pl' x
              obtain ⟨W, hW, rfl⟩ := nI_of2 (M := 2) (n := 2) (by decide) z1 z2
              rw [if_pos z2, if_neg z3, if_neg (show ¬ (1 : Int32) = 0 by decide), if_pos rfl, if_neg (nI_in (show e < 16 by omega) (by omega)), nI_clamp (show e < 2 ^ 31 by omega), if_neg (show ¬ (com' e < 0 ∨ 16 ≤ (com' e).toNatClampNeg) by rw [e1]; exact nI_in hc (by omega)), show (com' e).toNatClampNeg = c by rw [e1]; exact nI_clamp (by omega), w1, w2, Option.bind_some, Option.bind_some]
              dsimp only
              by_cases y4 : y = -1
              · rw [if_pos y4, if_pos y4, show (8 : Int32) = nI 8 from rfl, p_part9 (by omega), Option.bind_some, Option.bind_some]
                have e24 : 24 + nI W = nI (24 + W) := nI_add 24 W
                rw [e24, if_neg (nI_in (show 24 + W < 27 by omega) (by omega)), nI_clamp (show 24 + W < 2 ^ 31 by omega)]
                refine ⟨_, _, rfl, rfl, rfl, fun _ => ?_⟩
                dsimp only
                have ev : (if nI W = 0 then rok' 8 else if nI W = 1 then ron' 8 else ros' 8) = row2 (24 + W) := by
                  match W, hW with
                  | 0, _ => rw [if_pos (by decide)]; exact w3.2.1.symm
                  | 1, _ => rw [if_neg (by decide), if_pos (by decide)]; exact w3.2.2.1.symm
                  | 2, _ => rw [if_neg (by decide), if_neg (by decide)]; exact w3.2.2.2.symm
                  | W + 3, hW => exact absurd hW (by omega)
                rw [ev]
                exact p_out out _
              · obtain ⟨Y, hY, rfl⟩ : ∃ Y, Y < 8 ∧ y = nI Y := by
                  rcases p_in8 y with z | ⟨z | ⟨_, z⟩, _⟩
                  · exact z
                  · exfalso
                    apply y4
                    rw [← Int32.toInt_inj]
                    rw [Int32.lt_iff_toInt_lt] at z y1
                    have em : (-1 : Int32).toInt = -1 := by decide
                    have e0 : (0 : Int32).toInt = 0 := by decide
                    omega
                  · exact absurd z y2
                rw [if_neg y4, if_neg y4, p_part9 (by omega), Option.bind_some, Option.bind_some]
                have e24 : 8 * nI W + nI Y = nI (8 * W + Y) := by rw [show (8 : Int32) = nI 8 from rfl, pk_mul, nI_add]
                rw [e24, if_neg (nI_in (show 8 * W + Y < 27 by omega) (by omega)), nI_clamp (show 8 * W + Y < 2 ^ 31 by omega)]
                refine ⟨_, _, rfl, rfl, rfl, fun _ => ?_⟩
                dsimp only
                have ev : (if nI W = 0 then rok' Y else if nI W = 1 then ron' Y else ros' Y) = row2 (8 * W + Y) := by
                  match W, hW with
                  | 0, _ => rw [if_pos (by decide), show 8 * 0 + Y = Y by omega]; exact (w3.1 Y hY).1.symm
                  | 1, _ => rw [if_neg (by decide), if_pos (by decide)]; exact (w3.1 Y hY).2.1.symm
                  | 2, _ => rw [if_neg (by decide), if_neg (by decide)]; exact (w3.1 Y hY).2.2.symm
                  | W + 3, hW => exact absurd hW (by omega)
                rw [ev]
                exact p_out out _
            · have z3 : (2 : Int32) < z := by
                rw [Int32.lt_iff_toInt_lt]
                rw [Int32.le_iff_toInt_le] at z2
                omega
              rw [if_neg z2, if_pos z3, if_pos rfl, Option.bind_some, if_neg (by decide)]
              exact ⟨_, _, rfl, rfl, rfl, fun z => absurd (show (3 : Int32) = 0 from z) (by decide)⟩
