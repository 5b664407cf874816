/-! PURE: unwind, class against model -/
theorem p_unwindB {mb bb : Nat → Int32} (hB : pB mb bb) {sz msz : Int32} (hs : pSz sz msz) {u : Nat} (hu : u < 2 ^ 30) {kn pc uw : Int32} {fv : Nat → Int32} {ck mkn mpc muw : Int32} {rg : Nat → Int32} (hfr : pFr u kn pc uw fv ck mkn mpc muw rg) (out : Nat → Int64) (rA rL rB cnt lo lr ln lb td tp to_ tr_ tn_ tb_ H0 hc0 cf0 bg0 thr ent at0 lim0 bad0 kr pl hh rk x : Int32) (rok ron ros cok con cos r0k r0n r0s r1k r1n r1s r2k r2n r2s r3k r3n r3s mw cv sk fr beg ins ends com cod dat rr fi ra begins isC common code data back first range frm to row crow kept ms nx : Nat → Int32) : ∃ r s, f_Lw_unwind sz bb rA rL rB cnt lo lr ln lb td tp to_ tr_ tn_ tb_ rok ron ros cok con cos r0k r0n r0s r1k r1n r1s r2k r2n r2s r3k r3n r3s mw kn pc uw fv ck cv H0 hc0 cf0 bg0 sk out fr beg ins ends com cod dat rr fi ra x = some r ∧ f_Md_unwind thr msz ent at0 lim0 bad0 kr pl hh rk mkn mpc muw mb begins isC common code data back first range frm to row crow kept ms mw rg nx x = some s ∧ s.2.1 = r.1 ∧ (r.1 = 0 → lg_cmp (r.2.2.2.2.2.2.2.2.2.2.2.2.2.2.2.2.2.2.2.2.2.2.2.2.2.2.2.2.2.2.2.2.2.2.2.2.2.2.2.2.2.2.2.2.1 (0 : Int32).toNatClampNeg) s.1.toInt64 = 0) ∧ pFr (u + 1) r.2.2.2.2.2.2.2.2.2.2.2.2.2.2.2.2.2.2.2.2.2.2.2.2.2.2.2.2.2.2.2.2.2.1 r.2.2.2.2.2.2.2.2.2.2.2.2.2.2.2.2.2.2.2.2.2.2.2.2.2.2.2.2.2.2.2.2.2.2.1 r.2.2.2.2.2.2.2.2.2.2.2.2.2.2.2.2.2.2.2.2.2.2.2.2.2.2.2.2.2.2.2.2.2.2.2.1 r.2.2.2.2.2.2.2.2.2.2.2.2.2.2.2.2.2.2.2.2.2.2.2.2.2.2.2.2.2.2.2.2.2.2.2.2.1 r.2.2.2.2.2.2.2.2.2.2.2.2.2.2.2.2.2.2.2.2.2.2.2.2.2.2.2.2.2.2.2.2.2.2.2.2.2.1 s.2.2.2.2.2.2.2.2.2.2.1 s.2.2.2.2.2.2.2.2.2.2.2.1 s.2.2.2.2.2.2.2.2.2.2.2.2.1 s.2.2.2.2.2.2.2.2.2.2.2.2.2.2.2.2.2.2.2.2.2.2.2.2.2.2.2.1 := by
  obtain ⟨S, hS, rfl, rfl⟩ := hs
  have hfr1 := p_frUp hfr (Nat.le_succ u)
  obtain ⟨rfl, rfl, rfl, ⟨w, hw, rfl⟩, h5, h6⟩ := hfr
  unfold f_Lw_unwind f_Fu_unwind f_Md_unwind f_Md_unwind_29
  rcases p_look hB hS cnt rA rL rB lo lr ln lb ent at0 lim0 bad0 kr pl fr beg ins ends com cod dat rr fi ra begins isC common code data back first range frm to row crow kept with ⟨f, hf, q, v, g1, g2⟩ | ⟨N, rA', rL', rB', o', r', n', b', at', lim', bad', kr', pl', fr', beg', ins', ends', com', cod', dat', rr', fi', ra', begins', isC', common', code', data', back', first', range', frm', to', row', kept', hN, g1, g2, g3⟩
  · rw [g1, g2, Option.bind_some, Option.bind_some]
    dsimp only
    rw [if_neg (show ¬ nI f = -1 from fun z => absurd (show nI f < 0 by rw [z]; decide) (nI_pos (by omega))), if_neg (show ¬ nI f = -1 from fun z => absurd (show nI f < 0 by rw [z]; decide) (nI_pos (by omega))), if_neg (by decide), Option.bind_some]
    exact ⟨_, _, rfl, rfl, rfl, fun z => absurd (show (1 : Int32) = 0 from z) (by decide), hfr1⟩
  · rw [g1, g2, Option.bind_some, Option.bind_some]
    dsimp only
    rw [if_pos rfl, if_pos rfl]
    rcases p_fuel x with ⟨F, hF, rfl, f1, f2⟩ | ⟨f1, f2⟩
    · rw [f1, f2, Option.bind_some, Option.bind_some, if_neg (by decide), if_neg (show ¬ (1 : Int32) = 0 by decide), if_pos rfl]
      obtain ⟨p, hp1, hp2⟩ : ∃ p, f_Fr_place mpc (nI w) = some p ∧ ∀ {α : Type} (A : Int32 → α), (if nI w ≤ 0 then A mpc else A (mpc - 1)) = A p := by
        unfold f_Fr_place
        match w, hw with
        | 0, _ => exact ⟨mpc, if_pos rfl, fun A => if_pos (by decide)⟩
        | w + 1, hw => exact ⟨mpc - 1, if_neg (nI_ne0 (by omega) (by omega)), fun A => if_neg (nI_nle (by omega) (by omega))⟩
      rw [hp1, Option.bind_some, hp2 (fun z => f_Md_unwind_61 0 (nI S) (nI N) at' lim' bad' kr' pl' hh rk mkn mpc (nI w) mb begins' isC' common' code' data' back' first' range' frm' to' row' crow kept' ms mw rg nx (nI F) z)]
      unfold f_Md_unwind_61
      obtain ⟨i, k1, k2, k3⟩ := p_index hN (fun i hi => ⟨(g3 i hi).1, fun z => ⟨((g3 i hi).2.2.2.1 z).1, ((g3 i hi).2.2.2.1 z).2.1⟩⟩) p
      rw [k1, k2, Option.bind_some, Option.bind_some]
      rcases k3 with rfl | ⟨e, he, rfl, hi⟩
      · rw [if_pos rfl, if_pos rfl, Option.bind_some]
        exact ⟨_, _, rfl, rfl, rfl, fun _ => p_out out 10, hfr1⟩
      · have hem : ¬ nI e = -1 := fun z => absurd (show nI e < 0 by rw [z]; decide) (nI_pos (by omega))
        obtain ⟨c, q, hc, hq, e1, e2, e3, e4, e5⟩ := p_entAt hB hS hN g3 he hi
        obtain ⟨v1, v2, v3, v4, v5, oq, rq, nq, bq, u1, u2, u3, u4, u5, row2, crow2, kept2, rok', ron', ros', cok', con', cos', x0k, x0n, x0s, x1k, x1n, x1s, x2k, x2n, x2s, x3k, x3n, x3s, w1, w2, w3, w4⟩ := e5 rok ron ros cok con cos r0k r0n r0s r1k r1n r1s r2k r2n r2s r3k r3n r3s row' crow kept' td tp rA' rL' rB' to_ tr_ tn_ tb_ at' lim' bad' kr' pl' p
        have hcl : (com' e).toNatClampNeg = c := by rw [e1]; exact nI_clamp (by omega)
        have hcl2 : (common' e).toNatClampNeg = c := by rw [e2]; exact nI_clamp (by omega)
        have hrl : (rr' c).toNatClampNeg = q := by rw [e3]; exact nI_clamp (by omega)
        have hbl : (back' c).toNatClampNeg = q := by rw [e4]; exact nI_clamp (by omega)
        rw [if_neg hem, if_neg hem, if_neg (nI_in (show e < 16 by omega) (by omega)), nI_clamp (show e < 2 ^ 31 by omega), if_neg (show ¬ (com' e < 0 ∨ 16 ≤ (com' e).toNatClampNeg) by rw [e1]; exact nI_in hc (by omega)), hcl, w1, w2, Option.bind_some, Option.bind_some, if_neg (show ¬ (rr' c < 0 ∨ 9 ≤ (rr' c).toNatClampNeg) by rw [e3]; exact nI_in (show q < 9 by omega) (by omega)), hrl, if_neg (show ¬ (nI e < 0 ∨ 16 ≤ e) from fun z => z.elim (nI_pos (by omega)) (by omega)), if_neg (show ¬ (common' e < 0 ∨ 16 ≤ (common' e).toNatClampNeg) by rw [e2]; exact nI_in hc (by omega)), hcl2, if_neg (show ¬ (back' c < 0 ∨ 27 ≤ (back' c).toNatClampNeg) by rw [e4]; exact nI_in (show q < 27 by omega) (by omega)), hbl]
        dsimp only
        have hk := (w3.1 q hq).1
        by_cases hz : row2 q = 0
        · rw [if_pos hz, if_pos (show rok' q = 0 from hk ▸ hz), Option.bind_some]
          exact ⟨_, _, rfl, rfl, rfl, fun _ => p_out out 10, hfr1⟩
        · rw [if_neg hz, if_neg (show ¬ rok' q = 0 from fun z => hz (hk.trans z))]
          obtain ⟨f, h, t1, t2, t3, t4, t5, s1, s2, s3, s4, v, sk', ms', i1, i2, i3, i4⟩ := p_cfaBoth hB (sk := sk) (ms := ms) (mw := mw) (kn := mkn) hS hF w3 w4 (fun r hr => (h5 r hr).1) v3 v4 v5 H0 hc0 cf0 bg0 u1 u2 u3 hh rk
          rw [i2, i3, Option.bind_some, Option.bind_some]
          dsimp only
          by_cases hf0 : f = 0
          · subst hf0
            rw [i4 rfl, Option.bind_some, if_pos rfl, e4]
            obtain ⟨r, s, j1, j2, j3, j4, j5⟩ := p_137 hB (u := u) hS hF hq w3 w4 ⟨w, hw, rfl⟩ h5 (x5 := c) e3 (nI S) (nI N) o' r' n' b' v1 v2 oq rq nq bq p (nI e) v 0 (nI S) (nI N) u4 u5 p (nI e) e 8 0 LF LF t1 t2 t3 (nI h) t4 cf0 t5 ck s1 s2 s3 s4 v 0 0 cv sk' ms' nx (by omega) (by unfold LF; omega) (by unfold LF; omega) (fun j hj => absurd hj (by omega)) h6 (fun j _ _ => p_knZ j)
            rw [show f_Fu_unwind_137 LF (nI S) bb t1 t2 t3 (nI N) o' r' n' b' v1 v2 oq rq nq bq rok' ron' ros' cok' con' cos' x0k x0n x0s x1k x1n x1s x2k x2n x2s x3k x3n x3s mw mkn mpc (nI w) fv ck cv (nI h) t4 cf0 t5 sk' fr' beg' ins' ends' com' cod' dat' rr' fi' ra' (nI F) p (nI e) e c 0 v 0 = _ from j1, show f_Md_unwind_135 LF 0 (nI S) (nI N) s1 s2 s3 u4 u5 s4 v mkn mpc (nI w) mb begins' isC' common' code' data' back' first' range' frm' to' row2 crow2 kept2 ms' mw rg nx (nI F) p (nI e) (nI q) 0 v 0 0 = _ from j2, Option.bind_some]
            exact ⟨_, s, rfl, rfl, j4, fun _ => by rw [← j3]; exact p_out out _, j5⟩
          · obtain ⟨tv, htv⟩ := p_top i1 sk'
            rw [htv, Option.bind_some, if_neg hf0]
            obtain ⟨m, hm⟩ : ∃ m, LF = m + 1 := ⟨4095, rfl⟩
            rw [hm, f_Fu_unwind_137]
            simp only [if_neg hf0, ite_self, Option.bind_some]
            exact ⟨_, _, rfl, rfl, rfl, fun _ => p_out out f, hfr1⟩
    · rw [f1, f2, Option.bind_some, Option.bind_some, if_pos rfl, if_pos rfl, if_neg (by decide), Option.bind_some]
      exact ⟨_, _, rfl, rfl, rfl, fun z => absurd (show (2 : Int32) = 0 from z) (by decide), hfr1⟩
