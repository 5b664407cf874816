/-! PURE: the operations that are left -/
theorem p_mv19 (H : Int32) (sk : Nat → Int32) : f_Rk_move H sk (nI 19) = if (H - 1) < 0 ∨ 16 ≤ (H - 1).toNatClampNeg then none else (some (0, H - 1, sk)) := rfl
theorem p_mv22 (H : Int32) (sk : Nat → Int32) : f_Rk_move H sk (nI 22) = if (H - 1) < 0 ∨ 16 ≤ (H - 1).toNatClampNeg then none else if (H - 2) < 0 ∨ 16 ≤ (H - 2).toNatClampNeg then none else if (H - 1) < 0 ∨ 16 ≤ (H - 1).toNatClampNeg then none else if (H - 2) < 0 ∨ 16 ≤ (H - 2).toNatClampNeg then none else some (0, H, upd (upd sk (H - 1).toNatClampNeg (sk (H - 2).toNatClampNeg)) (H - 2).toNatClampNeg (sk (H - 1).toNatClampNeg)) := by
  unfold f_Rk_move
  simp only [if_neg (show ¬ nI 22 = (19 : Int32) by decide), if_pos (show nI 22 = (22 : Int32) by decide)]
theorem p_mv23 (H : Int32) (sk : Nat → Int32) : f_Rk_move H sk (nI 23) = if (H - 1) < 0 ∨ 16 ≤ (H - 1).toNatClampNeg then none else if (H - 2) < 0 ∨ 16 ≤ (H - 2).toNatClampNeg then none else if (H - 1) < 0 ∨ 16 ≤ (H - 1).toNatClampNeg then none else if (H - 3) < 0 ∨ 16 ≤ (H - 3).toNatClampNeg then none else if (H - 2) < 0 ∨ 16 ≤ (H - 2).toNatClampNeg then none else if (H - 3) < 0 ∨ 16 ≤ (H - 3).toNatClampNeg then none else some (0, H, upd (upd (upd sk (H - 1).toNatClampNeg (sk (H - 2).toNatClampNeg)) (H - 2).toNatClampNeg ((upd sk (H - 1).toNatClampNeg (sk (H - 2).toNatClampNeg)) (H - 3).toNatClampNeg)) (H - 3).toNatClampNeg (sk (H - 1).toNatClampNeg)) := by
  unfold f_Rk_move
  simp only [if_neg (show ¬ nI 23 = (19 : Int32) by decide), if_neg (show ¬ nI 23 = (22 : Int32) by decide)]
theorem p_rr22 (T l b H n x3 : Int32) (mb ms mw : Nat → Int32) : f_Md_rearrange_122 T l b H mb ms mw (nI 22) n x3 = (f_Md_lacks H x3).bind fun q124 => if q124 = 0 then (if (H - 1) < 0 ∨ 16 ≤ (H - 1).toNatClampNeg then none else (if (H - 2) < 0 ∨ 16 ≤ (H - 2).toNatClampNeg then none else if (H - 1) < 0 ∨ 16 ≤ (H - 1).toNatClampNeg then none else if (H - 2) < 0 ∨ 16 ≤ (H - 2).toNatClampNeg then none else some (0, T, b, H, upd (upd ms (H - 1).toNatClampNeg (ms (H - 2).toNatClampNeg)) (H - 2).toNatClampNeg (ms (H - 1).toNatClampNeg)))) else (some (3, T, b, H, ms)) := by
  unfold f_Md_rearrange_122
  simp only [if_neg (show ¬ nI 22 = (6 : Int32) by decide), if_neg (show ¬ nI 22 = (18 : Int32) by decide), if_neg (show ¬ nI 22 = (19 : Int32) by decide), if_neg (show ¬ nI 22 = (20 : Int32) by decide), if_neg (show ¬ nI 22 = (21 : Int32) by decide), if_pos (show nI 22 = (22 : Int32) by decide)]
theorem p_rr23 (T l b H n x3 : Int32) (mb ms mw : Nat → Int32) : f_Md_rearrange_122 T l b H mb ms mw (nI 23) n x3 = (f_Md_lacks H x3).bind fun q124 => if q124 = 0 then (if (H - 1) < 0 ∨ 16 ≤ (H - 1).toNatClampNeg then none else (if (H - 2) < 0 ∨ 16 ≤ (H - 2).toNatClampNeg then none else if (H - 1) < 0 ∨ 16 ≤ (H - 1).toNatClampNeg then none else if (H - 3) < 0 ∨ 16 ≤ (H - 3).toNatClampNeg then none else if (H - 2) < 0 ∨ 16 ≤ (H - 2).toNatClampNeg then none else if (H - 3) < 0 ∨ 16 ≤ (H - 3).toNatClampNeg then none else some (0, T, b, H, upd (upd (upd ms (H - 1).toNatClampNeg (ms (H - 2).toNatClampNeg)) (H - 2).toNatClampNeg ((upd ms (H - 1).toNatClampNeg (ms (H - 2).toNatClampNeg)) (H - 3).toNatClampNeg)) (H - 3).toNatClampNeg (ms (H - 1).toNatClampNeg)))) else (some (3, T, b, H, ms)) := by
  unfold f_Md_rearrange_122
  simp only [if_neg (show ¬ nI 23 = (6 : Int32) by decide), if_neg (show ¬ nI 23 = (18 : Int32) by decide), if_neg (show ¬ nI 23 = (19 : Int32) by decide), if_neg (show ¬ nI 23 = (20 : Int32) by decide), if_neg (show ¬ nI 23 = (21 : Int32) by decide), if_neg (show ¬ nI 23 = (22 : Int32) by decide), if_pos (show nI 23 = (23 : Int32) by decide)]
theorem p_jp47 (H B A L w : Int32) (sk : Nat → Int32) : f_Rk_jump H B A L sk (nI 47) w = f_Rk_jump_30 H B A L sk (nI 47) w := by
  unfold f_Rk_jump
  rw [if_neg (show ¬ nI 47 = (40 : Int32) by decide)]
theorem p_jp40 (H B A L w : Int32) (sk : Nat → Int32) : f_Rk_jump H B A L sk (nI 40) w = if (H - 1) < 0 ∨ 16 ≤ (H - 1).toNatClampNeg then none else if (sk (H - 1).toNatClampNeg) = 0 then (some (0, H - 1, A)) else (f_Rk_jump_30 (H - 1) B A L sk (nI 40) w) := by
  unfold f_Rk_jump
  rw [if_pos (show nI 40 = (40 : Int32) by decide)]
theorem p_o6 {h B a L : Nat} {hc cf kn : Int32} {bb mb mw fv rg sk ms : Nat → Int32} (hB : pB mb bb) (haL : a + 1 ≤ L) (hL : L ≤ 512) (hBL : B ≤ L) (hh : h ≤ 16) (hst : pSt h sk ms) (hkn : ∀ r, r < 8 → pKn kn r → fv r = rg r) (hb : f_Rd_unsigned (nI a) (nI L) 0 bb 1 = some (nI 6, nI (a + 1), 0)) : pOp L (f_Rk_doOne (nI h) hc cf (nI B) (nI a) (nI L) 0 bb mw kn fv sk) (f_Md_operation (nI (a + 1)) (nI L) 0 (nI h) kn mb ms mw rg (nI 6) (nI B) hc cf) := by
  have hM : f_Md_operation (nI (a + 1)) (nI L) 0 (nI h) kn mb ms mw rg (nI 6) (nI B) hc cf = (((f_Md_lacks (nI h) (nI 1)).bind fun q124 => if q124 = 0 then (if (nI h - 1) < 0 ∨ 16 ≤ (nI h - 1).toNatClampNeg then none else ((f_Md_isAddress (ms (nI h - 1).toNatClampNeg)).bind fun q270 => if q270 = 0 then (some (4, nI (a + 1), 0, nI h, ms)) else (if (4 : Int32) = 0 then none else if ((ms (nI h - 1).toNatClampNeg) / 4) < 0 ∨ 256 ≤ ((ms (nI h - 1).toNatClampNeg) / 4).toNatClampNeg then none else if (nI h - 1) < 0 ∨ 16 ≤ (nI h - 1).toNatClampNeg then none else some (0, nI (a + 1), 0, nI h, upd ms (nI h - 1).toNatClampNeg (mw ((ms (nI h - 1).toNatClampNeg) / 4).toNatClampNeg))))) else (some (3, nI (a + 1), 0, nI h, ms))).bind fun q => some (q.1, q.2.1, q.2.2.1, q.2.2.2.1, q.2.2.2.2)) := rfl
  have hC : f_Rk_changeTop (nI h) mw sk (nI 6) 0 = if (nI h - 1) < 0 ∨ 16 ≤ (nI h - 1).toNatClampNeg then none else ((f_Me_has (sk (nI h - 1).toNatClampNeg)).bind fun q61 => if q61 = 0 then (some (4, sk)) else ((f_Me_load mw (sk (nI h - 1).toNatClampNeg)).bind fun q74 => if (nI h - 1) < 0 ∨ 16 ≤ (nI h - 1).toNatClampNeg then none else some (0, upd sk (nI h - 1).toNatClampNeg q74))) := rfl
  rw [p_lacks hh (by omega), Option.bind_some] at hM
  refine p_oTop (fun x => mw (x / 4).toNatClampNeg) hh hst haL (Or.inl rfl) hb rfl rfl rfl (fun _ g hg => ?_) (fun _ h0 => ?_) (fun z => absurd z (by decide))
  · subst hg
    have c2 : (nI g).toNatClampNeg = g := nI_clamp (by omega)
    have hin := nI_in (show g < 16 by omega) (show 16 < 2 ^ 31 by omega)
    rw [if_pos (show 1 ≤ g + 1 by omega), if_pos rfl, p_g1, if_neg hin, c2] at hM
    rw [p_g1, if_neg hin, c2] at hC
    have hing : ¬ (nI g < 0 ∨ 16 ≤ g) := by rw [c2] at hin; exact hin
    have e := hst g (by omega)
    rcases p_addr (sk g) with ⟨j, hj, e1, e2, e3⟩ | ⟨-, e2, e3⟩
    · rw [← e, e3, Option.bind_some, if_neg (by decide), if_neg (by decide), e1, p_ad4 hj, if_neg (nI_in hj (by omega)), if_neg hing, nI_clamp (show j < 2 ^ 31 by omega), Option.bind_some] at hM
      rw [e2, Option.bind_some, if_neg (by decide), e1, p_load mw hj, Option.bind_some, if_neg hing] at hC
      refine Or.inl ⟨?_, ?_⟩
      · rw [hC, e1, p_ad4 hj, nI_clamp (show j < 2 ^ 31 by omega)]
      · rw [hM, ← e, e1, p_ad4 hj, nI_clamp (show j < 2 ^ 31 by omega)]
    · rw [← e, e3, Option.bind_some, if_pos rfl, Option.bind_some] at hM
      rw [e2, Option.bind_some, if_pos rfl] at hC
      exact Or.inr ⟨4, _, _, by decide, hC, hM⟩
  · subst h0
    rw [if_neg (by decide), Option.bind_some] at hM
    exact ⟨_, hM⟩
theorem p_o25 {h B a L : Nat} {hc cf kn : Int32} {bb mb mw fv rg sk ms : Nat → Int32} (hB : pB mb bb) (haL : a + 1 ≤ L) (hL : L ≤ 512) (hBL : B ≤ L) (hh : h ≤ 16) (hst : pSt h sk ms) (hkn : ∀ r, r < 8 → pKn kn r → fv r = rg r) (hb : f_Rd_unsigned (nI a) (nI L) 0 bb 1 = some (nI 25, nI (a + 1), 0)) : pOp L (f_Rk_doOne (nI h) hc cf (nI B) (nI a) (nI L) 0 bb mw kn fv sk) (f_Md_operation (nI (a + 1)) (nI L) 0 (nI h) kn mb ms mw rg (nI 25) (nI B) hc cf) := by
  have hM : f_Md_operation (nI (a + 1)) (nI L) 0 (nI h) kn mb ms mw rg (nI 25) (nI B) hc cf = (((f_Md_lacks (nI h) (nI 1)).bind fun q124 => if q124 = 0 then (if (nI h - 1) < 0 ∨ 16 ≤ (nI h - 1).toNatClampNeg then none else (if 0 ≤ (ms (nI h - 1).toNatClampNeg) then (if (nI h - 1) < 0 ∨ 16 ≤ (nI h - 1).toNatClampNeg then none else some (0, nI (a + 1), 0, nI h, upd ms (nI h - 1).toNatClampNeg ((ms (nI h - 1).toNatClampNeg)))) else (if (nI h - 1) < 0 ∨ 16 ≤ (nI h - 1).toNatClampNeg then none else some (0, nI (a + 1), 0, nI h, upd ms (nI h - 1).toNatClampNeg (0 - (ms (nI h - 1).toNatClampNeg)))))) else (some (3, nI (a + 1), 0, nI h, ms))).bind fun q => some (q.1, q.2.1, q.2.2.1, q.2.2.2.1, q.2.2.2.2)) := rfl
  have hC : f_Rk_changeTop (nI h) mw sk (nI 25) 0 = if (nI h - 1) < 0 ∨ 16 ≤ (nI h - 1).toNatClampNeg then none else (if 0 ≤ (sk (nI h - 1).toNatClampNeg) then (if (nI h - 1) < 0 ∨ 16 ≤ (nI h - 1).toNatClampNeg then none else some (0, upd sk (nI h - 1).toNatClampNeg ((sk (nI h - 1).toNatClampNeg)))) else (if (nI h - 1) < 0 ∨ 16 ≤ (nI h - 1).toNatClampNeg then none else some (0, upd sk (nI h - 1).toNatClampNeg (-(sk (nI h - 1).toNatClampNeg))))) := rfl
  rw [p_lacks hh (by omega), Option.bind_some] at hM
  refine p_oTop (fun x => if 0 ≤ x then x else -x) hh hst haL (Or.inl rfl) hb rfl rfl rfl (fun _ g hg => ?_) (fun _ h0 => ?_) (fun z => absurd z (by decide))
  · subst hg
    have c2 : (nI g).toNatClampNeg = g := nI_clamp (by omega)
    have hin := nI_in (show g < 16 by omega) (show 16 < 2 ^ 31 by omega)
    rw [if_pos (show 1 ≤ g + 1 by omega), if_pos rfl, p_g1, if_neg hin, c2] at hM
    rw [p_g1, if_neg hin, c2] at hC
    have hing : ¬ (nI g < 0 ∨ 16 ≤ g) := by rw [c2] at hin; exact hin
    rw [if_neg hing, if_neg hing] at hM
    rw [if_neg hing, if_neg hing] at hC
    refine Or.inl ⟨?_, ?_⟩
    · rw [hC]
      by_cases z : 0 ≤ sk g
      · rw [if_pos z, if_pos z]
      · rw [if_neg z, if_neg z]
    · rw [hM]
      by_cases z : 0 ≤ ms g
      · rw [if_pos z, if_pos z, Option.bind_some]
      · rw [if_neg z, if_neg z, Option.bind_some, Int32.zero_sub]
  · subst h0
    rw [if_neg (by decide), Option.bind_some] at hM
    exact ⟨_, hM⟩
theorem p_o31 {h B a L : Nat} {hc cf kn : Int32} {bb mb mw fv rg sk ms : Nat → Int32} (hB : pB mb bb) (haL : a + 1 ≤ L) (hL : L ≤ 512) (hBL : B ≤ L) (hh : h ≤ 16) (hst : pSt h sk ms) (hkn : ∀ r, r < 8 → pKn kn r → fv r = rg r) (hb : f_Rd_unsigned (nI a) (nI L) 0 bb 1 = some (nI 31, nI (a + 1), 0)) : pOp L (f_Rk_doOne (nI h) hc cf (nI B) (nI a) (nI L) 0 bb mw kn fv sk) (f_Md_operation (nI (a + 1)) (nI L) 0 (nI h) kn mb ms mw rg (nI 31) (nI B) hc cf) := by
  have hM : f_Md_operation (nI (a + 1)) (nI L) 0 (nI h) kn mb ms mw rg (nI 31) (nI B) hc cf = (((f_Md_lacks (nI h) (nI 1)).bind fun q124 => if q124 = 0 then (if (nI h - 1) < 0 ∨ 16 ≤ (nI h - 1).toNatClampNeg then none else (if (nI h - 1) < 0 ∨ 16 ≤ (nI h - 1).toNatClampNeg then none else some (0, nI (a + 1), 0, nI h, upd ms (nI h - 1).toNatClampNeg (0 - (ms (nI h - 1).toNatClampNeg))))) else (some (3, nI (a + 1), 0, nI h, ms))).bind fun q => some (q.1, q.2.1, q.2.2.1, q.2.2.2.1, q.2.2.2.2)) := rfl
  have hC : f_Rk_changeTop (nI h) mw sk (nI 31) 0 = if (nI h - 1) < 0 ∨ 16 ≤ (nI h - 1).toNatClampNeg then none else (if (nI h - 1) < 0 ∨ 16 ≤ (nI h - 1).toNatClampNeg then none else some (0, upd sk (nI h - 1).toNatClampNeg (-(sk (nI h - 1).toNatClampNeg)))) := rfl
  rw [p_lacks hh (by omega), Option.bind_some] at hM
  refine p_oTop (fun x => -x) hh hst haL (Or.inl rfl) hb rfl rfl rfl (fun _ g hg => ?_) (fun _ h0 => ?_) (fun z => absurd z (by decide))
  · subst hg
    have c2 : (nI g).toNatClampNeg = g := nI_clamp (by omega)
    have hin := nI_in (show g < 16 by omega) (show 16 < 2 ^ 31 by omega)
    rw [if_pos (show 1 ≤ g + 1 by omega), if_pos rfl, p_g1, if_neg hin, c2] at hM
    rw [p_g1, if_neg hin, c2] at hC
    have hing : ¬ (nI g < 0 ∨ 16 ≤ g) := by rw [c2] at hin; exact hin
    rw [if_neg hing, Option.bind_some, Int32.zero_sub] at hM
    rw [if_neg hing] at hC
    exact Or.inl ⟨hC, hM⟩
  · subst h0
    rw [if_neg (by decide), Option.bind_some] at hM
    exact ⟨_, hM⟩
theorem p_o32 {h B a L : Nat} {hc cf kn : Int32} {bb mb mw fv rg sk ms : Nat → Int32} (hB : pB mb bb) (haL : a + 1 ≤ L) (hL : L ≤ 512) (hBL : B ≤ L) (hh : h ≤ 16) (hst : pSt h sk ms) (hkn : ∀ r, r < 8 → pKn kn r → fv r = rg r) (hb : f_Rd_unsigned (nI a) (nI L) 0 bb 1 = some (nI 32, nI (a + 1), 0)) : pOp L (f_Rk_doOne (nI h) hc cf (nI B) (nI a) (nI L) 0 bb mw kn fv sk) (f_Md_operation (nI (a + 1)) (nI L) 0 (nI h) kn mb ms mw rg (nI 32) (nI B) hc cf) := by
  have hM : f_Md_operation (nI (a + 1)) (nI L) 0 (nI h) kn mb ms mw rg (nI 32) (nI B) hc cf = (((f_Md_lacks (nI h) (nI 1)).bind fun q124 => if q124 = 0 then (if (nI h - 1) < 0 ∨ 16 ≤ (nI h - 1).toNatClampNeg then none else (if (nI h - 1) < 0 ∨ 16 ≤ (nI h - 1).toNatClampNeg then none else some (0, nI (a + 1), 0, nI h, upd ms (nI h - 1).toNatClampNeg ((ms (nI h - 1).toNatClampNeg) ^^^ (-1))))) else (some (3, nI (a + 1), 0, nI h, ms))).bind fun q => some (q.1, q.2.1, q.2.2.1, q.2.2.2.1, q.2.2.2.2)) := rfl
  have hC : f_Rk_changeTop (nI h) mw sk (nI 32) 0 = if (nI h - 1) < 0 ∨ 16 ≤ (nI h - 1).toNatClampNeg then none else (if (nI h - 1) < 0 ∨ 16 ≤ (nI h - 1).toNatClampNeg then none else some (0, upd sk (nI h - 1).toNatClampNeg ((sk (nI h - 1).toNatClampNeg) ^^^ (-1)))) := rfl
  rw [p_lacks hh (by omega), Option.bind_some] at hM
  refine p_oTop (fun x => x ^^^ (-1)) hh hst haL (Or.inl rfl) hb rfl rfl rfl (fun _ g hg => ?_) (fun _ h0 => ?_) (fun z => absurd z (by decide))
  · subst hg
    have c2 : (nI g).toNatClampNeg = g := nI_clamp (by omega)
    have hin := nI_in (show g < 16 by omega) (show 16 < 2 ^ 31 by omega)
    rw [if_pos (show 1 ≤ g + 1 by omega), if_pos rfl, p_g1, if_neg hin, c2] at hM
    rw [p_g1, if_neg hin, c2] at hC
    have hing : ¬ (nI g < 0 ∨ 16 ≤ g) := by rw [c2] at hin; exact hin
    rw [if_neg hing, Option.bind_some] at hM
    rw [if_neg hing] at hC
    exact Or.inl ⟨hC, hM⟩
  · subst h0
    rw [if_neg (by decide), Option.bind_some] at hM
    exact ⟨_, hM⟩
theorem p_o35 {h B a L : Nat} {hc cf kn : Int32} {bb mb mw fv rg sk ms : Nat → Int32} (hB : pB mb bb) (haL : a + 1 ≤ L) (hL : L ≤ 512) (hBL : B ≤ L) (hh : h ≤ 16) (hst : pSt h sk ms) (hkn : ∀ r, r < 8 → pKn kn r → fv r = rg r) (hb : f_Rd_unsigned (nI a) (nI L) 0 bb 1 = some (nI 35, nI (a + 1), 0)) : pOp L (f_Rk_doOne (nI h) hc cf (nI B) (nI a) (nI L) 0 bb mw kn fv sk) (f_Md_operation (nI (a + 1)) (nI L) 0 (nI h) kn mb ms mw rg (nI 35) (nI B) hc cf) := by
  obtain ⟨w, a', b', g1, _, g2, g3⟩ := p_Mleb mb haL hL 0 0
  have hO : f_Rk_operandOf (nI (a + 1)) (nI L) 0 bb (nI 35) = some (w, nI a', b') := by
    rw [show f_Rk_operandOf (nI (a + 1)) (nI L) 0 bb (nI 35) = ((f_Rd_uleb (nI (a + 1)) (nI L) 0 bb).bind fun q => some (q.1, q.2.1, q.2.2)) from rfl, p_uleb hB haL hL, g1, Option.bind_some]
  have hM : f_Md_operation (nI (a + 1)) (nI L) 0 (nI h) kn mb ms mw rg (nI 35) (nI B) hc cf = ((f_Md_leb (nI (a + 1)) (nI L) 0 mb 0).bind fun q22 => f_Md_rearrange_29 q22.2.1 (nI L) q22.2.2 (nI h) mb ms mw (nI 35) q22.1).bind fun q => some (q.1, q.2.1, q.2.2.1, q.2.2.2.1, q.2.2.2.2) := rfl
  rw [g1, Option.bind_some] at hM
  have hC : f_Rk_changeTop (nI h) mw sk (nI 35) w = if (nI h - 1) < 0 ∨ 16 ≤ (nI h - 1).toNatClampNeg then none else (if (nI h - 1) < 0 ∨ 16 ≤ (nI h - 1).toNatClampNeg then none else some (0, upd sk (nI h - 1).toNatClampNeg ((sk (nI h - 1).toNatClampNeg) + w))) := rfl
  have hR : f_Md_rearrange_29 (nI a') (nI L) 0 (nI h) mb ms mw (nI 35) w = ((f_Md_lacks (nI h) (nI 1)).bind fun q124 => if q124 = 0 then (if (nI h - 1) < 0 ∨ 16 ≤ (nI h - 1).toNatClampNeg then none else (if (nI h - 1) < 0 ∨ 16 ≤ (nI h - 1).toNatClampNeg then none else some (0, nI a', 0, nI h, upd ms (nI h - 1).toNatClampNeg ((ms (nI h - 1).toNatClampNeg) + w)))) else (some (3, nI a', 0, nI h, ms))) := rfl
  rw [p_lacks hh (by omega), Option.bind_some] at hR
  refine p_oTop (fun x => x + w) hh hst g2 g3 hb rfl hO rfl (fun z g hg => ?_) (fun z h0 => ?_) (fun z => ?_)
  · subst z
    subst hg
    have c2 : (nI g).toNatClampNeg = g := nI_clamp (by omega)
    have hin := nI_in (show g < 16 by omega) (show 16 < 2 ^ 31 by omega)
    have hing : ¬ (nI g < 0 ∨ 16 ≤ g) := by rw [c2] at hin; exact hin
    rw [if_pos (show 1 ≤ g + 1 by omega), if_pos rfl, p_g1, if_neg hin, c2, if_neg hing] at hR
    rw [p_g1, if_neg hin, c2, if_neg hing] at hC
    dsimp only at hM
    rw [hR, Option.bind_some] at hM
    exact Or.inl ⟨hC, hM⟩
  · subst z
    subst h0
    dsimp only at hM
    rw [hR, if_neg (by decide), Option.bind_some] at hM
    exact ⟨_, hM⟩
  · subst z
    exact ⟨_, hM⟩
theorem p_o19 {h B a L : Nat} {hc cf kn : Int32} {bb mb mw fv rg sk ms : Nat → Int32} (hB : pB mb bb) (haL : a + 1 ≤ L) (hL : L ≤ 512) (hBL : B ≤ L) (hh : h ≤ 16) (hst : pSt h sk ms) (hkn : ∀ r, r < 8 → pKn kn r → fv r = rg r) (hb : f_Rd_unsigned (nI a) (nI L) 0 bb 1 = some (nI 19, nI (a + 1), 0)) : pOp L (f_Rk_doOne (nI h) hc cf (nI B) (nI a) (nI L) 0 bb mw kn fv sk) (f_Md_operation (nI (a + 1)) (nI L) 0 (nI h) kn mb ms mw rg (nI 19) (nI B) hc cf) := by
  have hD : f_Rk_doOne (nI h) hc cf (nI B) (nI a) (nI L) 0 bb mw kn fv sk = f_Rk_doOne_56 (nI h) hc cf (nI B) (nI (a + 1)) (nI L) 0 bb mw kn fv sk (nI 19) 5 0 0 := by
    rw [p_doE hb (fam := 5) rfl (d := 0) (a' := a + 1) (br := 0) rfl, if_neg (by decide), if_pos rfl, if_neg (by decide)]
  have h56 : f_Rk_doOne_56 (nI h) hc cf (nI B) (nI (a + 1)) (nI L) 0 bb mw kn fv sk (nI 19) 5 0 0 = if nI 1 ≤ nI h then ((f_Rk_move (nI h) sk (nI 19)).bind fun q134 => some (q134.1, q134.2.1, nI (a + 1), 0, q134.2.2)) else some (3, nI h, nI (a + 1), 0, sk) := rfl
  have hM : f_Md_operation (nI (a + 1)) (nI L) 0 (nI h) kn mb ms mw rg (nI 19) (nI B) hc cf = (((f_Md_lacks (nI h) (nI 1)).bind fun q124 => if q124 = 0 then (if (nI h - 1) < 0 ∨ 16 ≤ (nI h - 1).toNatClampNeg then none else some (0, nI (a + 1), 0, nI h - 1, ms)) else (some (3, nI (a + 1), 0, nI h, ms))).bind fun q => some (q.1, q.2.1, q.2.2.1, q.2.2.2.1, q.2.2.2.2)) := rfl
  rw [p_lacks hh (by omega), Option.bind_some] at hM
  rw [hD, h56, hM]
  rcases Nat.lt_or_ge h 1 with q | q
  · rw [if_neg (nI_ge q (by omega)), if_neg (show ¬ 1 ≤ h by omega), if_neg (by decide), Option.bind_some]
    exact Or.inl ⟨3, _, _, _, by decide, by omega, rfl, rfl⟩
  · obtain ⟨g, rfl⟩ : ∃ g, h = g + 1 := ⟨h - 1, by omega⟩
    rw [if_pos (nI_le (show 1 ≤ g + 1 by omega) (by omega)), if_pos (show 1 ≤ g + 1 by omega), if_pos rfl]
    rw [p_mv19, p_g1, if_neg (nI_in (show g < 16 by omega) (by omega)), if_neg (nI_in (show g < 16 by omega) (by omega)), Option.bind_some, Option.bind_some]
    exact Or.inr ⟨a + 1, g, _, _, haL, by omega, p_stL hst (by omega), rfl, rfl⟩
theorem p_o22 {h B a L : Nat} {hc cf kn : Int32} {bb mb mw fv rg sk ms : Nat → Int32} (hB : pB mb bb) (haL : a + 1 ≤ L) (hL : L ≤ 512) (hBL : B ≤ L) (hh : h ≤ 16) (hst : pSt h sk ms) (hkn : ∀ r, r < 8 → pKn kn r → fv r = rg r) (hb : f_Rd_unsigned (nI a) (nI L) 0 bb 1 = some (nI 22, nI (a + 1), 0)) : pOp L (f_Rk_doOne (nI h) hc cf (nI B) (nI a) (nI L) 0 bb mw kn fv sk) (f_Md_operation (nI (a + 1)) (nI L) 0 (nI h) kn mb ms mw rg (nI 22) (nI B) hc cf) := by
  have hD : f_Rk_doOne (nI h) hc cf (nI B) (nI a) (nI L) 0 bb mw kn fv sk = f_Rk_doOne_56 (nI h) hc cf (nI B) (nI (a + 1)) (nI L) 0 bb mw kn fv sk (nI 22) 5 0 0 := by
    rw [p_doE hb (fam := 5) rfl (d := 0) (a' := a + 1) (br := 0) rfl, if_neg (by decide), if_pos rfl, if_neg (by decide)]
  have h56 : f_Rk_doOne_56 (nI h) hc cf (nI B) (nI (a + 1)) (nI L) 0 bb mw kn fv sk (nI 22) 5 0 0 = if nI 2 ≤ nI h then ((f_Rk_move (nI h) sk (nI 22)).bind fun q134 => some (q134.1, q134.2.1, nI (a + 1), 0, q134.2.2)) else some (3, nI h, nI (a + 1), 0, sk) := rfl
  have hM : f_Md_operation (nI (a + 1)) (nI L) 0 (nI h) kn mb ms mw rg (nI 22) (nI B) hc cf = (((f_Md_lacks (nI h) (nI 2)).bind fun q124 => if q124 = 0 then (if (nI h - 1) < 0 ∨ 16 ≤ (nI h - 1).toNatClampNeg then none else (if (nI h - 2) < 0 ∨ 16 ≤ (nI h - 2).toNatClampNeg then none else if (nI h - 1) < 0 ∨ 16 ≤ (nI h - 1).toNatClampNeg then none else if (nI h - 2) < 0 ∨ 16 ≤ (nI h - 2).toNatClampNeg then none else some (0, nI (a + 1), 0, nI h, upd (upd ms (nI h - 1).toNatClampNeg (ms (nI h - 2).toNatClampNeg)) (nI h - 2).toNatClampNeg (ms (nI h - 1).toNatClampNeg)))) else (some (3, nI (a + 1), 0, nI h, ms))).bind fun q => some (q.1, q.2.1, q.2.2.1, q.2.2.2.1, q.2.2.2.2)) := by rw [← p_rr22 (nI (a + 1)) (nI L) 0 (nI h) 0 (nI 2) mb ms mw]; rfl
  rw [p_lacks hh (by omega), Option.bind_some] at hM
  rw [hD, h56, hM]
  rcases Nat.lt_or_ge h 2 with q | q
  · rw [if_neg (nI_ge q (by omega)), if_neg (show ¬ 2 ≤ h by omega), if_neg (by decide), Option.bind_some]
    exact Or.inl ⟨3, _, _, _, by decide, by omega, rfl, rfl⟩
  · obtain ⟨g, rfl⟩ : ∃ g, h = g + 2 := ⟨h - 2, by omega⟩
    rw [if_pos (nI_le (show 2 ≤ g + 2 by omega) (by omega)), if_pos (show 2 ≤ g + 2 by omega), if_pos rfl]
    have e1 : nI (g + 2) - 1 = nI (g + 1) := p_g1 (g + 1)
    have i1 := nI_in (show g + 1 < 16 by omega) (show 16 < 2 ^ 31 by omega)
    have i2 := nI_in (show g < 16 by omega) (show 16 < 2 ^ 31 by omega)
    rw [p_mv22]
    simp only [e1, p_g2, if_neg i1, if_neg i2, Option.bind_some]
    simp only [nI_clamp (show g + 1 < 2 ^ 31 by omega), nI_clamp (show g < 2 ^ 31 by omega)]
    rw [hst (g + 1) (by omega), hst g (by omega)]
    exact Or.inr ⟨a + 1, g + 2, _, _, haL, by omega, p_stW (p_stW hst _) _, rfl, rfl⟩
theorem p_o23 {h B a L : Nat} {hc cf kn : Int32} {bb mb mw fv rg sk ms : Nat → Int32} (hB : pB mb bb) (haL : a + 1 ≤ L) (hL : L ≤ 512) (hBL : B ≤ L) (hh : h ≤ 16) (hst : pSt h sk ms) (hkn : ∀ r, r < 8 → pKn kn r → fv r = rg r) (hb : f_Rd_unsigned (nI a) (nI L) 0 bb 1 = some (nI 23, nI (a + 1), 0)) : pOp L (f_Rk_doOne (nI h) hc cf (nI B) (nI a) (nI L) 0 bb mw kn fv sk) (f_Md_operation (nI (a + 1)) (nI L) 0 (nI h) kn mb ms mw rg (nI 23) (nI B) hc cf) := by
  have hD : f_Rk_doOne (nI h) hc cf (nI B) (nI a) (nI L) 0 bb mw kn fv sk = f_Rk_doOne_56 (nI h) hc cf (nI B) (nI (a + 1)) (nI L) 0 bb mw kn fv sk (nI 23) 5 0 0 := by
    rw [p_doE hb (fam := 5) rfl (d := 0) (a' := a + 1) (br := 0) rfl, if_neg (by decide), if_pos rfl, if_neg (by decide)]
  have h56 : f_Rk_doOne_56 (nI h) hc cf (nI B) (nI (a + 1)) (nI L) 0 bb mw kn fv sk (nI 23) 5 0 0 = if nI 3 ≤ nI h then ((f_Rk_move (nI h) sk (nI 23)).bind fun q134 => some (q134.1, q134.2.1, nI (a + 1), 0, q134.2.2)) else some (3, nI h, nI (a + 1), 0, sk) := rfl
  have hM : f_Md_operation (nI (a + 1)) (nI L) 0 (nI h) kn mb ms mw rg (nI 23) (nI B) hc cf = (((f_Md_lacks (nI h) (nI 3)).bind fun q124 => if q124 = 0 then (if (nI h - 1) < 0 ∨ 16 ≤ (nI h - 1).toNatClampNeg then none else (if (nI h - 2) < 0 ∨ 16 ≤ (nI h - 2).toNatClampNeg then none else if (nI h - 1) < 0 ∨ 16 ≤ (nI h - 1).toNatClampNeg then none else if (nI h - 3) < 0 ∨ 16 ≤ (nI h - 3).toNatClampNeg then none else if (nI h - 2) < 0 ∨ 16 ≤ (nI h - 2).toNatClampNeg then none else if (nI h - 3) < 0 ∨ 16 ≤ (nI h - 3).toNatClampNeg then none else some (0, nI (a + 1), 0, nI h, upd (upd (upd ms (nI h - 1).toNatClampNeg (ms (nI h - 2).toNatClampNeg)) (nI h - 2).toNatClampNeg ((upd ms (nI h - 1).toNatClampNeg (ms (nI h - 2).toNatClampNeg)) (nI h - 3).toNatClampNeg)) (nI h - 3).toNatClampNeg (ms (nI h - 1).toNatClampNeg)))) else (some (3, nI (a + 1), 0, nI h, ms))).bind fun q => some (q.1, q.2.1, q.2.2.1, q.2.2.2.1, q.2.2.2.2)) := by rw [← p_rr23 (nI (a + 1)) (nI L) 0 (nI h) 0 (nI 3) mb ms mw]; rfl
  rw [p_lacks hh (by omega), Option.bind_some] at hM
  rw [hD, h56, hM]
  rcases Nat.lt_or_ge h 3 with q | q
  · rw [if_neg (nI_ge q (by omega)), if_neg (show ¬ 3 ≤ h by omega), if_neg (by decide), Option.bind_some]
    exact Or.inl ⟨3, _, _, _, by decide, by omega, rfl, rfl⟩
  · obtain ⟨g, rfl⟩ : ∃ g, h = g + 3 := ⟨h - 3, by omega⟩
    rw [if_pos (nI_le (show 3 ≤ g + 3 by omega) (by omega)), if_pos (show 3 ≤ g + 3 by omega), if_pos rfl]
    have e1 : nI (g + 3) - 1 = nI (g + 2) := p_g1 (g + 2)
    have e2 : nI (g + 3) - 2 = nI (g + 1) := p_g2 (g + 1)
    have i0 := nI_in (show g + 2 < 16 by omega) (show 16 < 2 ^ 31 by omega)
    have i1 := nI_in (show g + 1 < 16 by omega) (show 16 < 2 ^ 31 by omega)
    have i2 := nI_in (show g < 16 by omega) (show 16 < 2 ^ 31 by omega)
    rw [p_mv23]
    simp only [e1, e2, p_g3, if_neg i0, if_neg i1, if_neg i2, Option.bind_some]
    simp only [nI_clamp (show g + 2 < 2 ^ 31 by omega), nI_clamp (show g + 1 < 2 ^ 31 by omega), nI_clamp (show g < 2 ^ 31 by omega)]
    rw [upd_n _ (show g ≠ g + 2 by omega), upd_n _ (show g ≠ g + 2 by omega), hst (g + 2) (by omega), hst (g + 1) (by omega), hst g (by omega)]
    exact Or.inr ⟨a + 1, g + 3, _, _, haL, by omega, p_stW (p_stW (p_stW hst _) _) _, rfl, rfl⟩
theorem p_o40 {h B a L : Nat} {hc cf kn : Int32} {bb mb mw fv rg sk ms : Nat → Int32} (hB : pB mb bb) (haL : a + 1 ≤ L) (hL : L ≤ 512) (hBL : B ≤ L) (hh : h ≤ 16) (hst : pSt h sk ms) (hkn : ∀ r, r < 8 → pKn kn r → fv r = rg r) (hb : f_Rd_unsigned (nI a) (nI L) 0 bb 1 = some (nI 40, nI (a + 1), 0)) : pOp L (f_Rk_doOne (nI h) hc cf (nI B) (nI a) (nI L) 0 bb mw kn fv sk) (f_Md_operation (nI (a + 1)) (nI L) 0 (nI h) kn mb ms mw rg (nI 40) (nI B) hc cf) := by
  obtain ⟨w, a', b', g1, g2, g3⟩ := p_rdS2 mb haL hL
  have hO : f_Rk_operandOf (nI (a + 1)) (nI L) 0 bb (nI 40) = some (w, nI a', b') := by
    rw [show f_Rk_operandOf (nI (a + 1)) (nI L) 0 bb (nI 40) = ((f_Rd_signed (nI (a + 1)) (nI L) 0 bb 2).bind fun q => some (q.1, q.2.1, q.2.2)) from rfl, show f_Rd_signed (nI (a + 1)) (nI L) 0 bb 2 = f_Md_signed (nI (a + 1)) (nI L) 0 mb 2 from p_signed2 hB haL hL, show f_Md_signed (nI (a + 1)) (nI L) 0 mb 2 = _ from g1, Option.bind_some]
  rcases g3 with rfl | rfl
  · have hD : f_Rk_doOne (nI h) hc cf (nI B) (nI a) (nI L) 0 bb mw kn fv sk = f_Rk_doOne_56 (nI h) hc cf (nI B) (nI a') (nI L) 0 bb mw kn fv sk (nI 40) 6 w 0 := by
      rw [p_doE hb (fam := 6) rfl hO, if_neg (by decide), if_pos rfl, if_neg (by decide)]
    have h56 : f_Rk_doOne_56 (nI h) hc cf (nI B) (nI a') (nI L) 0 bb mw kn fv sk (nI 40) 6 w 0 = if nI 1 ≤ nI h then ((f_Rk_jump (nI h) (nI B) (nI a') (nI L) sk (nI 40) w).bind fun q141 => some (q141.1, q141.2.1, q141.2.2, 0, sk)) else some (3, nI h, nI a', 0, sk) := rfl
    rw [hD, h56]
    have hM : f_Md_operation (nI (a + 1)) (nI L) 0 (nI h) kn mb ms mw rg (nI 40) (nI B) hc cf = ((f_Md_signed (nI (a + 1)) (nI L) 0 mb 2).bind fun q2 => if q2.2.2 = 0 then ((f_Md_lacks (nI h) (nI 1)).bind fun q26 => if q26 = 0 then (if (nI h - 1) < 0 ∨ 16 ≤ (nI h - 1).toNatClampNeg then none else if (ms (nI h - 1).toNatClampNeg) = 0 then (f_Md_jump_63 q2.2.1 (nI L) q2.2.2 (nI h - 1) mb ms (nI 40) (nI B) q2.1 0) else (f_Md_jump_63 q2.2.1 (nI L) q2.2.2 (nI h - 1) mb ms (nI 40) (nI B) q2.1 1)) else (some (3, q2.2.1, q2.2.2, nI h))) else (some (2, q2.2.1, q2.2.2, nI h))).bind (fun q357 => some (q357.1, q357.2.1, q357.2.2.1, q357.2.2.2, ms)) := rfl
    rw [show f_Md_signed (nI (a + 1)) (nI L) 0 mb 2 = _ from g1, Option.bind_some, if_pos rfl, p_lacks hh (by omega), Option.bind_some] at hM
    rw [hM]
    match h, hh, hst with
    | 0, _, _ =>
      rw [if_neg (by decide), if_neg (by decide), Option.bind_some]
      exact Or.inl ⟨3, _, _, _, by decide, by omega, rfl, rfl⟩
    | g + 1, hh, hst =>
      have c2 : (nI g).toNatClampNeg = g := nI_clamp (by omega)
      have hin := nI_in (show g < 16 by omega) (show 16 < 2 ^ 31 by omega)
      have hJ := p_jp40 (nI (g + 1)) (nI B) (nI a') (nI L) w sk
      rw [p_g1, if_neg hin, c2, hst g (by omega)] at hJ
      rw [if_pos (nI_le (show 1 ≤ g + 1 by omega) (by omega)), if_pos (show 1 ≤ g + 1 by omega), if_pos rfl, p_g1, if_neg hin, c2, hJ]
      by_cases z : ms g = 0
      · rw [if_pos z, if_pos z, Option.bind_some, show f_Md_jump_63 (nI a') (nI L) 0 (nI g) mb ms (nI 40) (nI B) w 0 = some (0, nI a', 0, nI g) from rfl, Option.bind_some]
        exact Or.inr ⟨a', g, _, _, g2, by omega, p_stL hst (by omega), rfl, rfl⟩
      · rw [if_neg z, if_neg z]
        exact p_oJump30 hBL hL (by omega) (p_stL hst (by omega))
  · have hM : f_Md_operation (nI (a + 1)) (nI L) 0 (nI h) kn mb ms mw rg (nI 40) (nI B) hc cf = ((f_Md_signed (nI (a + 1)) (nI L) 0 mb 2).bind fun q2 => if q2.2.2 = 0 then (if nI 40 = 40 then (((f_Md_lacks (nI h) 1).bind fun q26 => if q26 = 0 then (if (nI h - 1) < 0 ∨ 16 ≤ (nI h - 1).toNatClampNeg then none else if (ms (nI h - 1).toNatClampNeg) = 0 then (f_Md_jump_63 q2.2.1 (nI L) q2.2.2 (nI h - 1) mb ms (nI 40) (nI B) q2.1 0) else (f_Md_jump_63 q2.2.1 (nI L) q2.2.2 (nI h - 1) mb ms (nI 40) (nI B) q2.1 1)) else (some (3, q2.2.1, q2.2.2, nI h)))) else (f_Md_jump_63 q2.2.1 (nI L) q2.2.2 (nI h) mb ms (nI 40) (nI B) q2.1 1)) else (some (2, q2.2.1, q2.2.2, nI h))).bind (fun q357 => some (q357.1, q357.2.1, q357.2.2.1, q357.2.2.2, ms)) := rfl
    rw [show f_Md_signed (nI (a + 1)) (nI L) 0 mb 2 = _ from g1, Option.bind_some, if_neg (show ¬ (1 : Int32) = 0 by decide), Option.bind_some] at hM
    rw [p_doE hb (fam := 6) rfl hO, if_neg (by decide), if_neg (by decide), hM]
    exact Or.inl ⟨2, _, _, _, by decide, by omega, rfl, rfl⟩
theorem p_o47 {h B a L : Nat} {hc cf kn : Int32} {bb mb mw fv rg sk ms : Nat → Int32} (hB : pB mb bb) (haL : a + 1 ≤ L) (hL : L ≤ 512) (hBL : B ≤ L) (hh : h ≤ 16) (hst : pSt h sk ms) (hkn : ∀ r, r < 8 → pKn kn r → fv r = rg r) (hb : f_Rd_unsigned (nI a) (nI L) 0 bb 1 = some (nI 47, nI (a + 1), 0)) : pOp L (f_Rk_doOne (nI h) hc cf (nI B) (nI a) (nI L) 0 bb mw kn fv sk) (f_Md_operation (nI (a + 1)) (nI L) 0 (nI h) kn mb ms mw rg (nI 47) (nI B) hc cf) := by
  obtain ⟨w, a', b', g1, g2, g3⟩ := p_rdS2 mb haL hL
  have hO : f_Rk_operandOf (nI (a + 1)) (nI L) 0 bb (nI 47) = some (w, nI a', b') := by
    rw [show f_Rk_operandOf (nI (a + 1)) (nI L) 0 bb (nI 47) = ((f_Rd_signed (nI (a + 1)) (nI L) 0 bb 2).bind fun q => some (q.1, q.2.1, q.2.2)) from rfl, show f_Rd_signed (nI (a + 1)) (nI L) 0 bb 2 = f_Md_signed (nI (a + 1)) (nI L) 0 mb 2 from p_signed2 hB haL hL, show f_Md_signed (nI (a + 1)) (nI L) 0 mb 2 = _ from g1, Option.bind_some]
  rcases g3 with rfl | rfl
  · have hD : f_Rk_doOne (nI h) hc cf (nI B) (nI a) (nI L) 0 bb mw kn fv sk = f_Rk_doOne_56 (nI h) hc cf (nI B) (nI a') (nI L) 0 bb mw kn fv sk (nI 47) 6 w 0 := by
      rw [p_doE hb (fam := 6) rfl hO, if_neg (by decide), if_pos rfl, if_neg (by decide)]
    have h56 : f_Rk_doOne_56 (nI h) hc cf (nI B) (nI a') (nI L) 0 bb mw kn fv sk (nI 47) 6 w 0 = if nI 0 ≤ nI h then ((f_Rk_jump (nI h) (nI B) (nI a') (nI L) sk (nI 47) w).bind fun q141 => some (q141.1, q141.2.1, q141.2.2, 0, sk)) else some (3, nI h, nI a', 0, sk) := rfl
    rw [hD, h56]
    have hM : f_Md_operation (nI (a + 1)) (nI L) 0 (nI h) kn mb ms mw rg (nI 47) (nI B) hc cf = ((f_Md_signed (nI (a + 1)) (nI L) 0 mb 2).bind fun q2 => if q2.2.2 = 0 then (f_Md_jump_63 q2.2.1 (nI L) q2.2.2 (nI h) mb ms (nI 47) (nI B) q2.1 1) else (some (2, q2.2.1, q2.2.2, nI h))).bind (fun q357 => some (q357.1, q357.2.1, q357.2.2.1, q357.2.2.2, ms)) := rfl
    rw [show f_Md_signed (nI (a + 1)) (nI L) 0 mb 2 = _ from g1, Option.bind_some, if_pos rfl] at hM
    rw [if_pos (nI_le (by omega) (by omega)), hM, p_jp47]
    exact p_oJump30 hBL hL hh hst
  · have hM : f_Md_operation (nI (a + 1)) (nI L) 0 (nI h) kn mb ms mw rg (nI 47) (nI B) hc cf = ((f_Md_signed (nI (a + 1)) (nI L) 0 mb 2).bind fun q2 => if q2.2.2 = 0 then (if nI 47 = 40 then (((f_Md_lacks (nI h) 1).bind fun q26 => if q26 = 0 then (if (nI h - 1) < 0 ∨ 16 ≤ (nI h - 1).toNatClampNeg then none else if (ms (nI h - 1).toNatClampNeg) = 0 then (f_Md_jump_63 q2.2.1 (nI L) q2.2.2 (nI h - 1) mb ms (nI 47) (nI B) q2.1 0) else (f_Md_jump_63 q2.2.1 (nI L) q2.2.2 (nI h - 1) mb ms (nI 47) (nI B) q2.1 1)) else (some (3, q2.2.1, q2.2.2, nI h)))) else (f_Md_jump_63 q2.2.1 (nI L) q2.2.2 (nI h) mb ms (nI 47) (nI B) q2.1 1)) else (some (2, q2.2.1, q2.2.2, nI h))).bind (fun q357 => some (q357.1, q357.2.1, q357.2.2.1, q357.2.2.2, ms)) := rfl
    rw [show f_Md_signed (nI (a + 1)) (nI L) 0 mb 2 = _ from g1, Option.bind_some, if_neg (show ¬ (1 : Int32) = 0 by decide), Option.bind_some] at hM
    rw [p_doE hb (fam := 6) rfl hO, if_neg (by decide), if_neg (by decide), hM]
    exact Or.inl ⟨2, _, _, _, by decide, by omega, rfl, rfl⟩
theorem p_o150 {h B a L : Nat} {hc cf kn : Int32} {bb mb mw fv rg sk ms : Nat → Int32} (hB : pB mb bb) (haL : a + 1 ≤ L) (hL : L ≤ 512) (hBL : B ≤ L) (hh : h ≤ 16) (hst : pSt h sk ms) (hkn : ∀ r, r < 8 → pKn kn r → fv r = rg r) (hb : f_Rd_unsigned (nI a) (nI L) 0 bb 1 = some (nI 150, nI (a + 1), 0)) : pOp L (f_Rk_doOne (nI h) hc cf (nI B) (nI a) (nI L) 0 bb mw kn fv sk) (f_Md_operation (nI (a + 1)) (nI L) 0 (nI h) kn mb ms mw rg (nI 150) (nI B) hc cf) := by
  rw [p_doE hb (fam := 1) rfl (d := 0) (a' := a + 1) (br := 0) rfl, if_neg (by decide), if_pos rfl, if_neg (by decide)]
  rw [show f_Rk_doOne_56 (nI h) hc cf (nI B) (nI (a + 1)) (nI L) 0 bb mw kn fv sk (nI 150) 1 0 0 = if nI 0 ≤ nI h then some (0, nI h, nI (a + 1), 0, sk) else some (3, nI h, nI (a + 1), 0, sk) from rfl, if_pos (nI_le (by omega) (by omega)), show f_Md_operation (nI (a + 1)) (nI L) 0 (nI h) kn mb ms mw rg (nI 150) (nI B) hc cf = some (0, nI (a + 1), 0, nI h, ms) from rfl]
  exact Or.inr ⟨a + 1, h, _, _, haL, hh, hst, rfl, rfl⟩
theorem p_o156 {h B a L : Nat} {hc cf kn : Int32} {bb mb mw fv rg sk ms : Nat → Int32} (hB : pB mb bb) (haL : a + 1 ≤ L) (hL : L ≤ 512) (hBL : B ≤ L) (hh : h ≤ 16) (hst : pSt h sk ms) (hkn : ∀ r, r < 8 → pKn kn r → fv r = rg r) (hb : f_Rd_unsigned (nI a) (nI L) 0 bb 1 = some (nI 156, nI (a + 1), 0)) : pOp L (f_Rk_doOne (nI h) hc cf (nI B) (nI a) (nI L) 0 bb mw kn fv sk) (f_Md_operation (nI (a + 1)) (nI L) 0 (nI h) kn mb ms mw rg (nI 156) (nI B) hc cf) := by
  have hM : f_Md_operation (nI (a + 1)) (nI L) 0 (nI h) kn mb ms mw rg (nI 156) (nI B) hc cf = if hc = 0 then (some (2, nI (a + 1), 0, nI h, ms)) else (((f_Md_pushed 0 (nI h) ms cf).bind fun q370 => some (q370.1, nI (a + 1), 0, q370.2.1, q370.2.2))) := rfl
  have hF : f_Rk_familyOf hc (nI 156) = if hc = 0 then some 0 else some 2 := rfl
  by_cases z : hc = 0
  · rw [if_pos z] at hM hF
    exact p_oMiss hh hb hF rfl hM
  · rw [if_neg z] at hM hF
    exact p_oPush (v := cf) hh hst haL (Or.inl rfl) hb hF rfl rfl rfl hM
theorem p_o26 {h B a L : Nat} {hc cf kn : Int32} {bb mb mw fv rg sk ms : Nat → Int32} (hB : pB mb bb) (haL : a + 1 ≤ L) (hL : L ≤ 512) (hBL : B ≤ L) (hh : h ≤ 16) (hst : pSt h sk ms) (hkn : ∀ r, r < 8 → pKn kn r → fv r = rg r) (hb : f_Rd_unsigned (nI a) (nI L) 0 bb 1 = some (nI 26, nI (a + 1), 0)) : pOp L (f_Rk_doOne (nI h) hc cf (nI B) (nI a) (nI L) 0 bb mw kn fv sk) (f_Md_operation (nI (a + 1)) (nI L) 0 (nI h) kn mb ms mw rg (nI 26) (nI B) hc cf) := by
  exact p_oTwo (f_Rk_joined (nI 26)) haL hh hst hb rfl rfl rfl rfl (fun _ _ _ _ => rfl) (fun x y _ => p_two26 x y)
theorem p_o27 {h B a L : Nat} {hc cf kn : Int32} {bb mb mw fv rg sk ms : Nat → Int32} (hB : pB mb bb) (haL : a + 1 ≤ L) (hL : L ≤ 512) (hBL : B ≤ L) (hh : h ≤ 16) (hst : pSt h sk ms) (hkn : ∀ r, r < 8 → pKn kn r → fv r = rg r) (hb : f_Rd_unsigned (nI a) (nI L) 0 bb 1 = some (nI 27, nI (a + 1), 0)) : pOp L (f_Rk_doOne (nI h) hc cf (nI B) (nI a) (nI L) 0 bb mw kn fv sk) (f_Md_operation (nI (a + 1)) (nI L) 0 (nI h) kn mb ms mw rg (nI 27) (nI B) hc cf) := by
  exact p_oTwo (f_Rk_joined (nI 27)) haL hh hst hb rfl rfl rfl rfl (fun _ _ _ _ => rfl) (fun x y z => p_two27 x y (z.resolve_right (fun w => w (Or.inl rfl))))
theorem p_o28 {h B a L : Nat} {hc cf kn : Int32} {bb mb mw fv rg sk ms : Nat → Int32} (hB : pB mb bb) (haL : a + 1 ≤ L) (hL : L ≤ 512) (hBL : B ≤ L) (hh : h ≤ 16) (hst : pSt h sk ms) (hkn : ∀ r, r < 8 → pKn kn r → fv r = rg r) (hb : f_Rd_unsigned (nI a) (nI L) 0 bb 1 = some (nI 28, nI (a + 1), 0)) : pOp L (f_Rk_doOne (nI h) hc cf (nI B) (nI a) (nI L) 0 bb mw kn fv sk) (f_Md_operation (nI (a + 1)) (nI L) 0 (nI h) kn mb ms mw rg (nI 28) (nI B) hc cf) := by
  exact p_oTwo (f_Rk_joined (nI 28)) haL hh hst hb rfl rfl rfl rfl (fun _ _ _ _ => rfl) (fun x y _ => p_two28 x y)
theorem p_o29 {h B a L : Nat} {hc cf kn : Int32} {bb mb mw fv rg sk ms : Nat → Int32} (hB : pB mb bb) (haL : a + 1 ≤ L) (hL : L ≤ 512) (hBL : B ≤ L) (hh : h ≤ 16) (hst : pSt h sk ms) (hkn : ∀ r, r < 8 → pKn kn r → fv r = rg r) (hb : f_Rd_unsigned (nI a) (nI L) 0 bb 1 = some (nI 29, nI (a + 1), 0)) : pOp L (f_Rk_doOne (nI h) hc cf (nI B) (nI a) (nI L) 0 bb mw kn fv sk) (f_Md_operation (nI (a + 1)) (nI L) 0 (nI h) kn mb ms mw rg (nI 29) (nI B) hc cf) := by
  exact p_oTwo (f_Rk_joined (nI 29)) haL hh hst hb rfl rfl rfl rfl (fun _ _ _ _ => rfl) (fun x y z => p_two29 x y (z.resolve_right (fun w => w (Or.inr rfl))))
theorem p_o30 {h B a L : Nat} {hc cf kn : Int32} {bb mb mw fv rg sk ms : Nat → Int32} (hB : pB mb bb) (haL : a + 1 ≤ L) (hL : L ≤ 512) (hBL : B ≤ L) (hh : h ≤ 16) (hst : pSt h sk ms) (hkn : ∀ r, r < 8 → pKn kn r → fv r = rg r) (hb : f_Rd_unsigned (nI a) (nI L) 0 bb 1 = some (nI 30, nI (a + 1), 0)) : pOp L (f_Rk_doOne (nI h) hc cf (nI B) (nI a) (nI L) 0 bb mw kn fv sk) (f_Md_operation (nI (a + 1)) (nI L) 0 (nI h) kn mb ms mw rg (nI 30) (nI B) hc cf) := by
  exact p_oTwo (f_Rk_joined (nI 30)) haL hh hst hb rfl rfl rfl rfl (fun _ _ _ _ => rfl) (fun x y _ => p_two30 x y)
theorem p_o33 {h B a L : Nat} {hc cf kn : Int32} {bb mb mw fv rg sk ms : Nat → Int32} (hB : pB mb bb) (haL : a + 1 ≤ L) (hL : L ≤ 512) (hBL : B ≤ L) (hh : h ≤ 16) (hst : pSt h sk ms) (hkn : ∀ r, r < 8 → pKn kn r → fv r = rg r) (hb : f_Rd_unsigned (nI a) (nI L) 0 bb 1 = some (nI 33, nI (a + 1), 0)) : pOp L (f_Rk_doOne (nI h) hc cf (nI B) (nI a) (nI L) 0 bb mw kn fv sk) (f_Md_operation (nI (a + 1)) (nI L) 0 (nI h) kn mb ms mw rg (nI 33) (nI B) hc cf) := by
  exact p_oTwo (f_Rk_joined (nI 33)) haL hh hst hb rfl rfl rfl rfl (fun _ _ _ _ => rfl) (fun x y _ => p_two33 x y)
theorem p_o34 {h B a L : Nat} {hc cf kn : Int32} {bb mb mw fv rg sk ms : Nat → Int32} (hB : pB mb bb) (haL : a + 1 ≤ L) (hL : L ≤ 512) (hBL : B ≤ L) (hh : h ≤ 16) (hst : pSt h sk ms) (hkn : ∀ r, r < 8 → pKn kn r → fv r = rg r) (hb : f_Rd_unsigned (nI a) (nI L) 0 bb 1 = some (nI 34, nI (a + 1), 0)) : pOp L (f_Rk_doOne (nI h) hc cf (nI B) (nI a) (nI L) 0 bb mw kn fv sk) (f_Md_operation (nI (a + 1)) (nI L) 0 (nI h) kn mb ms mw rg (nI 34) (nI B) hc cf) := by
  exact p_oTwo (f_Rk_joined (nI 34)) haL hh hst hb rfl rfl rfl rfl (fun _ _ _ _ => rfl) (fun x y _ => p_two34 x y)
theorem p_o36 {h B a L : Nat} {hc cf kn : Int32} {bb mb mw fv rg sk ms : Nat → Int32} (hB : pB mb bb) (haL : a + 1 ≤ L) (hL : L ≤ 512) (hBL : B ≤ L) (hh : h ≤ 16) (hst : pSt h sk ms) (hkn : ∀ r, r < 8 → pKn kn r → fv r = rg r) (hb : f_Rd_unsigned (nI a) (nI L) 0 bb 1 = some (nI 36, nI (a + 1), 0)) : pOp L (f_Rk_doOne (nI h) hc cf (nI B) (nI a) (nI L) 0 bb mw kn fv sk) (f_Md_operation (nI (a + 1)) (nI L) 0 (nI h) kn mb ms mw rg (nI 36) (nI B) hc cf) := by
  exact p_oTwo (f_Rk_joined (nI 36)) haL hh hst hb rfl rfl rfl rfl (fun _ _ _ _ => rfl) (fun x y _ => p_two36 x y)
theorem p_o37 {h B a L : Nat} {hc cf kn : Int32} {bb mb mw fv rg sk ms : Nat → Int32} (hB : pB mb bb) (haL : a + 1 ≤ L) (hL : L ≤ 512) (hBL : B ≤ L) (hh : h ≤ 16) (hst : pSt h sk ms) (hkn : ∀ r, r < 8 → pKn kn r → fv r = rg r) (hb : f_Rd_unsigned (nI a) (nI L) 0 bb 1 = some (nI 37, nI (a + 1), 0)) : pOp L (f_Rk_doOne (nI h) hc cf (nI B) (nI a) (nI L) 0 bb mw kn fv sk) (f_Md_operation (nI (a + 1)) (nI L) 0 (nI h) kn mb ms mw rg (nI 37) (nI B) hc cf) := by
  exact p_oTwo (f_Rk_joined (nI 37)) haL hh hst hb rfl rfl rfl rfl (fun _ _ _ _ => rfl) (fun x y _ => p_two37 x y)
theorem p_o38 {h B a L : Nat} {hc cf kn : Int32} {bb mb mw fv rg sk ms : Nat → Int32} (hB : pB mb bb) (haL : a + 1 ≤ L) (hL : L ≤ 512) (hBL : B ≤ L) (hh : h ≤ 16) (hst : pSt h sk ms) (hkn : ∀ r, r < 8 → pKn kn r → fv r = rg r) (hb : f_Rd_unsigned (nI a) (nI L) 0 bb 1 = some (nI 38, nI (a + 1), 0)) : pOp L (f_Rk_doOne (nI h) hc cf (nI B) (nI a) (nI L) 0 bb mw kn fv sk) (f_Md_operation (nI (a + 1)) (nI L) 0 (nI h) kn mb ms mw rg (nI 38) (nI B) hc cf) := by
  exact p_oTwo (f_Rk_joined (nI 38)) haL hh hst hb rfl rfl rfl rfl (fun _ _ _ _ => rfl) (fun x y _ => p_two38 x y)
theorem p_o39 {h B a L : Nat} {hc cf kn : Int32} {bb mb mw fv rg sk ms : Nat → Int32} (hB : pB mb bb) (haL : a + 1 ≤ L) (hL : L ≤ 512) (hBL : B ≤ L) (hh : h ≤ 16) (hst : pSt h sk ms) (hkn : ∀ r, r < 8 → pKn kn r → fv r = rg r) (hb : f_Rd_unsigned (nI a) (nI L) 0 bb 1 = some (nI 39, nI (a + 1), 0)) : pOp L (f_Rk_doOne (nI h) hc cf (nI B) (nI a) (nI L) 0 bb mw kn fv sk) (f_Md_operation (nI (a + 1)) (nI L) 0 (nI h) kn mb ms mw rg (nI 39) (nI B) hc cf) := by
  exact p_oTwo (f_Rk_joined (nI 39)) haL hh hst hb rfl rfl rfl rfl (fun _ _ _ _ => rfl) (fun x y _ => p_two39 x y)
theorem p_o41 {h B a L : Nat} {hc cf kn : Int32} {bb mb mw fv rg sk ms : Nat → Int32} (hB : pB mb bb) (haL : a + 1 ≤ L) (hL : L ≤ 512) (hBL : B ≤ L) (hh : h ≤ 16) (hst : pSt h sk ms) (hkn : ∀ r, r < 8 → pKn kn r → fv r = rg r) (hb : f_Rd_unsigned (nI a) (nI L) 0 bb 1 = some (nI 41, nI (a + 1), 0)) : pOp L (f_Rk_doOne (nI h) hc cf (nI B) (nI a) (nI L) 0 bb mw kn fv sk) (f_Md_operation (nI (a + 1)) (nI L) 0 (nI h) kn mb ms mw rg (nI 41) (nI B) hc cf) := by
  exact p_oTwo (f_Rk_compared (nI 41)) haL hh hst hb rfl rfl rfl rfl (fun _ _ _ _ => rfl) (fun x y _ => p_two41 x y)
theorem p_o42 {h B a L : Nat} {hc cf kn : Int32} {bb mb mw fv rg sk ms : Nat → Int32} (hB : pB mb bb) (haL : a + 1 ≤ L) (hL : L ≤ 512) (hBL : B ≤ L) (hh : h ≤ 16) (hst : pSt h sk ms) (hkn : ∀ r, r < 8 → pKn kn r → fv r = rg r) (hb : f_Rd_unsigned (nI a) (nI L) 0 bb 1 = some (nI 42, nI (a + 1), 0)) : pOp L (f_Rk_doOne (nI h) hc cf (nI B) (nI a) (nI L) 0 bb mw kn fv sk) (f_Md_operation (nI (a + 1)) (nI L) 0 (nI h) kn mb ms mw rg (nI 42) (nI B) hc cf) := by
  exact p_oTwo (f_Rk_compared (nI 42)) haL hh hst hb rfl rfl rfl rfl (fun _ _ _ _ => rfl) (fun x y _ => p_two42 x y)
theorem p_o43 {h B a L : Nat} {hc cf kn : Int32} {bb mb mw fv rg sk ms : Nat → Int32} (hB : pB mb bb) (haL : a + 1 ≤ L) (hL : L ≤ 512) (hBL : B ≤ L) (hh : h ≤ 16) (hst : pSt h sk ms) (hkn : ∀ r, r < 8 → pKn kn r → fv r = rg r) (hb : f_Rd_unsigned (nI a) (nI L) 0 bb 1 = some (nI 43, nI (a + 1), 0)) : pOp L (f_Rk_doOne (nI h) hc cf (nI B) (nI a) (nI L) 0 bb mw kn fv sk) (f_Md_operation (nI (a + 1)) (nI L) 0 (nI h) kn mb ms mw rg (nI 43) (nI B) hc cf) := by
  exact p_oTwo (f_Rk_compared (nI 43)) haL hh hst hb rfl rfl rfl rfl (fun _ _ _ _ => rfl) (fun x y _ => p_two43 x y)
theorem p_o44 {h B a L : Nat} {hc cf kn : Int32} {bb mb mw fv rg sk ms : Nat → Int32} (hB : pB mb bb) (haL : a + 1 ≤ L) (hL : L ≤ 512) (hBL : B ≤ L) (hh : h ≤ 16) (hst : pSt h sk ms) (hkn : ∀ r, r < 8 → pKn kn r → fv r = rg r) (hb : f_Rd_unsigned (nI a) (nI L) 0 bb 1 = some (nI 44, nI (a + 1), 0)) : pOp L (f_Rk_doOne (nI h) hc cf (nI B) (nI a) (nI L) 0 bb mw kn fv sk) (f_Md_operation (nI (a + 1)) (nI L) 0 (nI h) kn mb ms mw rg (nI 44) (nI B) hc cf) := by
  exact p_oTwo (f_Rk_compared (nI 44)) haL hh hst hb rfl rfl rfl rfl (fun _ _ _ _ => rfl) (fun x y _ => p_two44 x y)
theorem p_o45 {h B a L : Nat} {hc cf kn : Int32} {bb mb mw fv rg sk ms : Nat → Int32} (hB : pB mb bb) (haL : a + 1 ≤ L) (hL : L ≤ 512) (hBL : B ≤ L) (hh : h ≤ 16) (hst : pSt h sk ms) (hkn : ∀ r, r < 8 → pKn kn r → fv r = rg r) (hb : f_Rd_unsigned (nI a) (nI L) 0 bb 1 = some (nI 45, nI (a + 1), 0)) : pOp L (f_Rk_doOne (nI h) hc cf (nI B) (nI a) (nI L) 0 bb mw kn fv sk) (f_Md_operation (nI (a + 1)) (nI L) 0 (nI h) kn mb ms mw rg (nI 45) (nI B) hc cf) := by
  exact p_oTwo (f_Rk_compared (nI 45)) haL hh hst hb rfl rfl rfl rfl (fun _ _ _ _ => rfl) (fun x y _ => p_two45 x y)
theorem p_o46 {h B a L : Nat} {hc cf kn : Int32} {bb mb mw fv rg sk ms : Nat → Int32} (hB : pB mb bb) (haL : a + 1 ≤ L) (hL : L ≤ 512) (hBL : B ≤ L) (hh : h ≤ 16) (hst : pSt h sk ms) (hkn : ∀ r, r < 8 → pKn kn r → fv r = rg r) (hb : f_Rd_unsigned (nI a) (nI L) 0 bb 1 = some (nI 46, nI (a + 1), 0)) : pOp L (f_Rk_doOne (nI h) hc cf (nI B) (nI a) (nI L) 0 bb mw kn fv sk) (f_Md_operation (nI (a + 1)) (nI L) 0 (nI h) kn mb ms mw rg (nI 46) (nI B) hc cf) := by
  exact p_oTwo (f_Rk_compared (nI 46)) haL hh hst hb rfl rfl rfl rfl (fun _ _ _ _ => rfl) (fun x y _ => p_two46 x y)
