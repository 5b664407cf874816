/-! PURE: the other operations -/
theorem p_rdU (mb : Nat → Int32) {a L c : Nat} (ha : a ≤ L) (hL : L ≤ 512) (hc : c ≤ 4) : ∃ (w : Int32) (a' : Nat) (b' : Int32), f_Md_unsigned (nI a) (nI L) 0 mb (nI c) = some (w, nI a', b') ∧ a' ≤ L ∧ (b' = 0 ∨ b' = 1) := by
  rw [p_Muns mb 0 ha hL hc]
  by_cases z : a + c ≤ L
  · rw [if_pos z]; exact ⟨_, a + c, _, rfl, z, Or.inl rfl⟩
  · rw [if_neg z]; exact ⟨_, a, _, rfl, ha, Or.inr rfl⟩
theorem p_rdS1 (mb : Nat → Int32) {a L : Nat} (ha : a ≤ L) (hL : L ≤ 512) : ∃ (w : Int32) (a' : Nat) (b' : Int32), f_Md_signed (nI a) (nI L) 0 mb 1 = some (w, nI a', b') ∧ a' ≤ L ∧ (b' = 0 ∨ b' = 1) := by
  obtain ⟨w, a', b', g1, g2, g3⟩ := p_rdU mb ha hL (c := 1) (by omega)
  unfold f_Md_signed
  rw [show f_Md_unsigned (nI a) (nI L) 0 mb 1 = _ from g1, Option.bind_some, if_pos rfl]
  exact ⟨_, a', b', rfl, g2, g3⟩
theorem p_rdS2 (mb : Nat → Int32) {a L : Nat} (ha : a ≤ L) (hL : L ≤ 512) : ∃ (w : Int32) (a' : Nat) (b' : Int32), f_Md_signed (nI a) (nI L) 0 mb 2 = some (w, nI a', b') ∧ a' ≤ L ∧ (b' = 0 ∨ b' = 1) := by
  obtain ⟨w, a', b', g1, g2, g3⟩ := p_rdU mb ha hL (c := 2) (by omega)
  unfold f_Md_signed
  rw [show f_Md_unsigned (nI a) (nI L) 0 mb 2 = _ from g1, Option.bind_some, if_neg (by decide), if_pos rfl]
  exact ⟨_, a', b', rfl, g2, g3⟩
theorem p_g1 (g : Nat) : nI (g + 1) - 1 = nI g := nI_pred g
theorem p_g2 (g : Nat) : nI (g + 2) - 2 = nI g := by rw [show (2 : Int32) = nI 2 from rfl, pk_sub (by omega)]; rfl
theorem p_g3 (g : Nat) : nI (g + 3) - 3 = nI g := by rw [show (3 : Int32) = nI 3 from rfl, pk_sub (by omega)]; rfl
theorem p_oTop {h B a a' L k : Nat} {hc cf kn d br : Int32} {bb mb mw fv rg sk ms : Nat → Int32} (F : Int32 → Int32) (hh : h ≤ 16) (hst : pSt h sk ms) (ha' : a' ≤ L) (hbr : br = 0 ∨ br = 1) (hb : f_Rd_unsigned (nI a) (nI L) 0 bb 1 = some (nI k, nI (a + 1), 0)) (hF : f_Rk_familyOf hc (nI k) = some 3) (hO : f_Rk_operandOf (nI (a + 1)) (nI L) 0 bb (nI k) = some (d, nI a', br)) (hN : f_Rk_neededBy (nI k) 3 d = some 1) (hC : br = 0 → ∀ g, h = g + 1 → (f_Rk_changeTop (nI h) mw sk (nI k) d = some (0, upd sk g (F (sk g))) ∧ f_Md_operation (nI (a + 1)) (nI L) 0 (nI h) kn mb ms mw rg (nI k) (nI B) hc cf = some (0, nI a', 0, nI h, upd ms g (F (ms g)))) ∨ (∃ (f : Int32) (u : Nat → Int32) (v : Int32 × Int32 × Int32 × (Nat → Int32)), f ≠ 0 ∧ f_Rk_changeTop (nI h) mw sk (nI k) d = some (f, u) ∧ f_Md_operation (nI (a + 1)) (nI L) 0 (nI h) kn mb ms mw rg (nI k) (nI B) hc cf = some (f, v))) (hM0 : br = 0 → h = 0 → ∃ u, f_Md_operation (nI (a + 1)) (nI L) 0 (nI h) kn mb ms mw rg (nI k) (nI B) hc cf = some (3, u)) (hM1 : br = 1 → ∃ u, f_Md_operation (nI (a + 1)) (nI L) 0 (nI h) kn mb ms mw rg (nI k) (nI B) hc cf = some (2, u)) : pOp L (f_Rk_doOne (nI h) hc cf (nI B) (nI a) (nI L) 0 bb mw kn fv sk) (f_Md_operation (nI (a + 1)) (nI L) 0 (nI h) kn mb ms mw rg (nI k) (nI B) hc cf) := by
  rw [p_doE hb hF hO, if_neg (by decide)]
  rcases hbr with rfl | rfl
  · rw [if_pos rfl, if_neg (by decide)]
    unfold f_Rk_doOne_56
    rw [if_pos rfl, hN, Option.bind_some]
    match h, hC rfl, hM0 rfl with
    | 0, _, hM0 =>
      obtain ⟨u, hu⟩ := hM0 rfl
      rw [if_neg (by decide), hu]
      exact Or.inl ⟨3, _, _, _, by decide, by omega, rfl, rfl⟩
    | g + 1, hC, _ =>
      rw [if_pos (show (1 : Int32) ≤ nI (g + 1) from nI_le (a := 1) (by omega) (by omega)), if_neg (by decide), if_pos rfl]
      rcases hC g rfl with ⟨h1, h2⟩ | ⟨f, u, v, h0, h1, h2⟩
      · rw [h1, h2, Option.bind_some, hst g (by omega)]
        exact Or.inr ⟨a', g + 1, _, _, ha', hh, p_stW hst _, rfl, rfl⟩
      · rw [h1, h2, Option.bind_some]
        exact Or.inl ⟨f, _, _, _, h0, by omega, rfl, rfl⟩
  · obtain ⟨u, hu⟩ := hM1 rfl
    rw [if_neg (by decide), hu]
    exact Or.inl ⟨2, _, _, _, by decide, by omega, rfl, rfl⟩
theorem p_oTwo {h B a L k : Nat} {hc cf kn : Int32} {bb mb mw fv rg sk ms : Nat → Int32} (J : Int32 → Int32 → Option Int32) (haL : a + 1 ≤ L) (hh : h ≤ 16) (hst : pSt h sk ms) (hb : f_Rd_unsigned (nI a) (nI L) 0 bb 1 = some (nI k, nI (a + 1), 0)) (hF : f_Rk_familyOf hc (nI k) = some 4) (hO : f_Rk_operandOf (nI (a + 1)) (nI L) 0 bb (nI k) = some (0, nI (a + 1), 0)) (hN : f_Rk_neededBy (nI k) 4 0 = some 2) (hT : f_Md_isTwo (nI k) = some 1) (hJ : ∀ (H : Int32) (sk : Nat → Int32) (x2 x3 : Int32), f_Rk_joinTwo_42 H sk (nI k) x2 x3 = (J x3 x2).bind fun q80 => if ((H - 1) - 1) < 0 ∨ 16 ≤ ((H - 1) - 1).toNatClampNeg then none else some (0, H - 1, upd sk ((H - 1) - 1).toNatClampNeg q80)) (h2 : ∀ x y, (¬ y = 0 ∨ ¬ (nI k = 27 ∨ nI k = 29)) → ∃ v, J x y = some v ∧ f_Md_two (nI k) x y = some v) : pOp L (f_Rk_doOne (nI h) hc cf (nI B) (nI a) (nI L) 0 bb mw kn fv sk) (f_Md_operation (nI (a + 1)) (nI L) 0 (nI h) kn mb ms mw rg (nI k) (nI B) hc cf) := by
  have hMop : f_Md_operation (nI (a + 1)) (nI L) 0 (nI h) kn mb ms mw rg (nI k) (nI B) hc cf = (f_Md_lacks (nI h) (nI 2)).bind fun q9 => if q9 = 0 then (if (nI h - 1) < 0 ∨ 16 ≤ (nI h - 1).toNatClampNeg then none else if (ms (nI h - 1).toNatClampNeg) = 0 then (if nI k = 27 then (some (5, nI (a + 1), 0, nI h, ms)) else (if nI k = 29 then (some (5, nI (a + 1), 0, nI h, ms)) else (f_Md_operation_49 (nI (a + 1)) (nI L) 0 (nI h) kn mb ms mw rg (nI k) (nI B) hc cf (ms (nI h - 1).toNatClampNeg)))) else (f_Md_operation_49 (nI (a + 1)) (nI L) 0 (nI h) kn mb ms mw rg (nI k) (nI B) hc cf (ms (nI h - 1).toNatClampNeg))) else (some (3, nI (a + 1), 0, nI h, ms)) := by
    unfold f_Md_operation
    rw [hT, Option.bind_some, if_neg (show ¬ (1 : Int32) = 0 by decide)]
    rfl
  have hDo : f_Rk_doOne_56 (nI h) hc cf (nI B) (nI (a + 1)) (nI L) 0 bb mw kn fv sk (nI k) 4 0 0 = if nI 2 ≤ nI h then ((f_Rk_joinTwo (nI h) sk (nI k)).bind fun q128 => some (q128.1, q128.2.1, nI (a + 1), 0, q128.2.2)) else some (3, nI h, nI (a + 1), 0, sk) := by
    unfold f_Rk_doOne_56
    rw [if_pos rfl, hN, Option.bind_some, if_neg (show ¬ (4 : Int32) = 2 by decide), if_neg (show ¬ (4 : Int32) = 3 by decide), if_pos rfl]
    rfl
  rw [p_doE hb hF hO, if_neg (by decide), if_pos rfl, if_neg (by decide), hDo, hMop, p_lacks hh (by omega), Option.bind_some]
  rcases Nat.lt_or_ge h 2 with q | q
  · rw [if_neg (nI_ge q (by omega)), if_neg (show ¬ 2 ≤ h by omega), if_neg (by decide)]
    exact Or.inl ⟨3, _, _, _, by decide, by omega, rfl, rfl⟩
  · obtain ⟨g, rfl⟩ : ∃ g, h = g + 2 := ⟨h - 2, by omega⟩
    have e1 : nI (g + 2) - 1 = nI (g + 1) := p_g1 (g + 1)
    have e2 : nI (g + 2) - 2 = nI g := p_g2 g
    have e3 : nI (g + 1) - 1 = nI g := p_g1 g
    have c1 : (nI (g + 1)).toNatClampNeg = g + 1 := nI_clamp (by omega)
    have c2 : (nI g).toNatClampNeg = g := nI_clamp (by omega)
    rw [if_pos (nI_le (show 2 ≤ g + 2 by omega) (by omega)), if_pos (show 2 ≤ g + 2 by omega), if_pos rfl]
    unfold f_Rk_joinTwo f_Md_operation_49
    simp only [hJ, e1, e2, e3, if_neg (nI_in (show g + 1 < 16 by omega) (show 16 < 2 ^ 31 by omega)), if_neg (nI_in (show g < 16 by omega) (show 16 < 2 ^ 31 by omega))]
    rw [c1, c2]
    rw [hst (g + 1) (by omega), hst g (by omega)]
    by_cases hz : ms (g + 1) = 0
    · rw [if_pos hz, if_pos hz]
      by_cases h27 : nI k = 27
      · rw [if_pos h27, if_pos h27]
        exact Or.inl ⟨5, _, _, _, by decide, by omega, rfl, rfl⟩
      · rw [if_neg h27, if_neg h27]
        by_cases h29 : nI k = 29
        · rw [if_pos h29, if_pos h29]
          exact Or.inl ⟨5, _, _, _, by decide, by omega, rfl, rfl⟩
        · rw [if_neg h29, if_neg h29]
          obtain ⟨v, j1, j2⟩ := h2 (ms g) (ms (g + 1)) (Or.inr (fun z => z.elim h27 h29))
          rw [j1, j2, Option.bind_some, Option.bind_some, Option.bind_some]
          exact Or.inr ⟨a + 1, g + 1, _, _, haL, by omega, p_stU (p_stL hst (by omega)) _, rfl, rfl⟩
    · rw [if_neg hz, if_neg hz]
      obtain ⟨v, j1, j2⟩ := h2 (ms g) (ms (g + 1)) (Or.inl hz)
      rw [j1, j2, Option.bind_some, Option.bind_some, Option.bind_some]
      exact Or.inr ⟨a + 1, g + 1, _, _, haL, by omega, p_stU (p_stL hst (by omega)) _, rfl, rfl⟩
theorem p_oJump30 {g B a' L : Nat} {w k : Int32} {sk ms mb : Nat → Int32} (hB : B ≤ L) (hL : L ≤ 512) (hg : g ≤ 16) (hst : pSt g sk ms) : pOp L ((f_Rk_jump_30 (nI g) (nI B) (nI a') (nI L) sk k w).bind fun q141 => some (q141.1, q141.2.1, q141.2.2, 0, sk)) ((f_Md_jump_63 (nI a') (nI L) 0 (nI g) mb ms k (nI B) w 1).bind fun q357 => some (q357.1, q357.2.1, q357.2.2.1, q357.2.2.2, ms)) := by
  unfold f_Rk_jump_30 f_Md_jump_63
  rw [if_neg (show ¬ (1 : Int32) = 0 by decide), p_win, Option.bind_some]
  by_cases h1 : nI a' + w < nI B
  · rw [if_pos h1, if_pos h1, if_pos rfl]
    exact Or.inl ⟨2, _, _, _, by decide, by omega, rfl, rfl⟩
  · rw [if_neg h1, if_neg h1]
    by_cases h2 : nI a' + w ≤ nI L
    · have h3 : ¬ nI L < nI a' + w := fun z => by
        rw [Int32.lt_iff_toInt_lt] at z
        rw [Int32.le_iff_toInt_le] at h2
        omega
      obtain ⟨t, ht, e⟩ := nI_of2 (M := nI L) (nI_toInt (by omega)) (fun z => h1 (by
        rw [Int32.lt_iff_toInt_lt] at z ⊢
        rw [nI_toInt (show B < 2 ^ 31 by omega)]
        have e0 : (0 : Int32).toInt = 0 := by decide
        omega)) h2
      rw [if_pos h2, if_neg h3, if_neg (by decide), e]
      exact Or.inr ⟨t, g, _, _, ht, hg, hst, rfl, rfl⟩
    · have h3 : nI L < nI a' + w := by
        rw [Int32.lt_iff_toInt_lt]
        rw [Int32.le_iff_toInt_le] at h2
        omega
      rw [if_neg h2, if_pos h3, if_pos rfl]
      exact Or.inl ⟨2, _, _, _, by decide, by omega, rfl, rfl⟩

theorem p_o3 {h B a L : Nat} {hc cf kn : Int32} {bb mb mw fv rg sk ms : Nat → Int32} (hB : pB mb bb) (haL : a + 1 ≤ L) (hL : L ≤ 512) (hBL : B ≤ L) (hh : h ≤ 16) (hst : pSt h sk ms) (hkn : ∀ r, r < 8 → pKn kn r → fv r = rg r) (hb : f_Rd_unsigned (nI a) (nI L) 0 bb 1 = some (nI 3, nI (a + 1), 0)) : pOp L (f_Rk_doOne (nI h) hc cf (nI B) (nI a) (nI L) 0 bb mw kn fv sk) (f_Md_operation (nI (a + 1)) (nI L) 0 (nI h) kn mb ms mw rg (nI 3) (nI B) hc cf) := by
  obtain ⟨w, a', b', g1, g2, g3⟩ := p_rdU mb haL hL (c := 4) (by omega)
  have hO : f_Rk_operandOf (nI (a + 1)) (nI L) 0 bb (nI 3) = some (w, nI a', b') := by
    rw [show f_Rk_operandOf (nI (a + 1)) (nI L) 0 bb (nI 3) = ((f_Rd_unsigned (nI (a + 1)) (nI L) 0 bb 4).bind fun q => some (q.1, q.2.1, q.2.2)) from rfl, show f_Rd_unsigned (nI (a + 1)) (nI L) 0 bb 4 = f_Md_unsigned (nI (a + 1)) (nI L) 0 mb 4 from p_uns hB haL hL (c := 4) (by omega), show f_Md_unsigned (nI (a + 1)) (nI L) 0 mb 4 = _ from g1, Option.bind_some]
  have hM : f_Md_operation (nI (a + 1)) (nI L) 0 (nI h) kn mb ms mw rg (nI 3) (nI B) hc cf = (f_Md_pushed b' (nI h) ms w).bind fun u => some (u.1, nI a', b', u.2.1, u.2.2) := by
    rw [show f_Md_operation (nI (a + 1)) (nI L) 0 (nI h) kn mb ms mw rg (nI 3) (nI B) hc cf = ((f_Md_unsigned (nI (a + 1)) (nI L) 0 mb 4).bind fun q => ((f_Md_pushed q.2.2 (nI h) ms q.1).bind fun u => some (u.1, q.2.1, q.2.2, u.2.1, u.2.2))) from rfl, show f_Md_unsigned (nI (a + 1)) (nI L) 0 mb 4 = _ from g1, Option.bind_some]
  exact p_oPush hh hst g2 g3 hb rfl hO rfl rfl hM
theorem p_o13 {h B a L : Nat} {hc cf kn : Int32} {bb mb mw fv rg sk ms : Nat → Int32} (hB : pB mb bb) (haL : a + 1 ≤ L) (hL : L ≤ 512) (hBL : B ≤ L) (hh : h ≤ 16) (hst : pSt h sk ms) (hkn : ∀ r, r < 8 → pKn kn r → fv r = rg r) (hb : f_Rd_unsigned (nI a) (nI L) 0 bb 1 = some (nI 13, nI (a + 1), 0)) : pOp L (f_Rk_doOne (nI h) hc cf (nI B) (nI a) (nI L) 0 bb mw kn fv sk) (f_Md_operation (nI (a + 1)) (nI L) 0 (nI h) kn mb ms mw rg (nI 13) (nI B) hc cf) := by
  obtain ⟨w, a', b', g1, g2, g3⟩ := p_rdU mb haL hL (c := 4) (by omega)
  have hO : f_Rk_operandOf (nI (a + 1)) (nI L) 0 bb (nI 13) = some (w, nI a', b') := by
    rw [show f_Rk_operandOf (nI (a + 1)) (nI L) 0 bb (nI 13) = ((f_Rd_unsigned (nI (a + 1)) (nI L) 0 bb 4).bind fun q => some (q.1, q.2.1, q.2.2)) from rfl, show f_Rd_unsigned (nI (a + 1)) (nI L) 0 bb 4 = f_Md_unsigned (nI (a + 1)) (nI L) 0 mb 4 from p_uns hB haL hL (c := 4) (by omega), show f_Md_unsigned (nI (a + 1)) (nI L) 0 mb 4 = _ from g1, Option.bind_some]
  have hM : f_Md_operation (nI (a + 1)) (nI L) 0 (nI h) kn mb ms mw rg (nI 13) (nI B) hc cf = (f_Md_pushed b' (nI h) ms w).bind fun u => some (u.1, nI a', b', u.2.1, u.2.2) := by
    rw [show f_Md_operation (nI (a + 1)) (nI L) 0 (nI h) kn mb ms mw rg (nI 13) (nI B) hc cf = ((f_Md_unsigned (nI (a + 1)) (nI L) 0 mb 4).bind fun q => ((f_Md_pushed q.2.2 (nI h) ms q.1).bind fun u => some (u.1, q.2.1, q.2.2, u.2.1, u.2.2))) from rfl, show f_Md_unsigned (nI (a + 1)) (nI L) 0 mb 4 = _ from g1, Option.bind_some]
  exact p_oPush hh hst g2 g3 hb rfl hO rfl rfl hM
theorem p_o8 {h B a L : Nat} {hc cf kn : Int32} {bb mb mw fv rg sk ms : Nat → Int32} (hB : pB mb bb) (haL : a + 1 ≤ L) (hL : L ≤ 512) (hBL : B ≤ L) (hh : h ≤ 16) (hst : pSt h sk ms) (hkn : ∀ r, r < 8 → pKn kn r → fv r = rg r) (hb : f_Rd_unsigned (nI a) (nI L) 0 bb 1 = some (nI 8, nI (a + 1), 0)) : pOp L (f_Rk_doOne (nI h) hc cf (nI B) (nI a) (nI L) 0 bb mw kn fv sk) (f_Md_operation (nI (a + 1)) (nI L) 0 (nI h) kn mb ms mw rg (nI 8) (nI B) hc cf) := by
  obtain ⟨w, a', b', g1, g2, g3⟩ := p_rdU mb haL hL (c := 1) (by omega)
  have hO : f_Rk_operandOf (nI (a + 1)) (nI L) 0 bb (nI 8) = some (w, nI a', b') := by
    rw [show f_Rk_operandOf (nI (a + 1)) (nI L) 0 bb (nI 8) = ((f_Rd_unsigned (nI (a + 1)) (nI L) 0 bb 1).bind fun q => some (q.1, q.2.1, q.2.2)) from rfl, show f_Rd_unsigned (nI (a + 1)) (nI L) 0 bb 1 = f_Md_unsigned (nI (a + 1)) (nI L) 0 mb 1 from p_uns hB haL hL (c := 1) (by omega), show f_Md_unsigned (nI (a + 1)) (nI L) 0 mb 1 = _ from g1, Option.bind_some]
  have hM : f_Md_operation (nI (a + 1)) (nI L) 0 (nI h) kn mb ms mw rg (nI 8) (nI B) hc cf = (f_Md_pushed b' (nI h) ms w).bind fun u => some (u.1, nI a', b', u.2.1, u.2.2) := by
    rw [show f_Md_operation (nI (a + 1)) (nI L) 0 (nI h) kn mb ms mw rg (nI 8) (nI B) hc cf = ((f_Md_unsigned (nI (a + 1)) (nI L) 0 mb 1).bind fun q => ((f_Md_pushed q.2.2 (nI h) ms q.1).bind fun u => some (u.1, q.2.1, q.2.2, u.2.1, u.2.2))) from rfl, show f_Md_unsigned (nI (a + 1)) (nI L) 0 mb 1 = _ from g1, Option.bind_some]
  exact p_oPush hh hst g2 g3 hb rfl hO rfl rfl hM
theorem p_o9 {h B a L : Nat} {hc cf kn : Int32} {bb mb mw fv rg sk ms : Nat → Int32} (hB : pB mb bb) (haL : a + 1 ≤ L) (hL : L ≤ 512) (hBL : B ≤ L) (hh : h ≤ 16) (hst : pSt h sk ms) (hkn : ∀ r, r < 8 → pKn kn r → fv r = rg r) (hb : f_Rd_unsigned (nI a) (nI L) 0 bb 1 = some (nI 9, nI (a + 1), 0)) : pOp L (f_Rk_doOne (nI h) hc cf (nI B) (nI a) (nI L) 0 bb mw kn fv sk) (f_Md_operation (nI (a + 1)) (nI L) 0 (nI h) kn mb ms mw rg (nI 9) (nI B) hc cf) := by
  obtain ⟨w, a', b', g1, g2, g3⟩ := p_rdS1 mb haL hL
  have hO : f_Rk_operandOf (nI (a + 1)) (nI L) 0 bb (nI 9) = some (w, nI a', b') := by
    rw [show f_Rk_operandOf (nI (a + 1)) (nI L) 0 bb (nI 9) = ((f_Rd_signed (nI (a + 1)) (nI L) 0 bb 1).bind fun q => some (q.1, q.2.1, q.2.2)) from rfl, show f_Rd_signed (nI (a + 1)) (nI L) 0 bb 1 = f_Md_signed (nI (a + 1)) (nI L) 0 mb 1 from p_signed1 hB haL hL, show f_Md_signed (nI (a + 1)) (nI L) 0 mb 1 = _ from g1, Option.bind_some]
  have hM : f_Md_operation (nI (a + 1)) (nI L) 0 (nI h) kn mb ms mw rg (nI 9) (nI B) hc cf = (f_Md_pushed b' (nI h) ms w).bind fun u => some (u.1, nI a', b', u.2.1, u.2.2) := by
    rw [show f_Md_operation (nI (a + 1)) (nI L) 0 (nI h) kn mb ms mw rg (nI 9) (nI B) hc cf = ((f_Md_signed (nI (a + 1)) (nI L) 0 mb 1).bind fun q => ((f_Md_pushed q.2.2 (nI h) ms q.1).bind fun u => some (u.1, q.2.1, q.2.2, u.2.1, u.2.2))) from rfl, show f_Md_signed (nI (a + 1)) (nI L) 0 mb 1 = _ from g1, Option.bind_some]
  exact p_oPush hh hst g2 g3 hb rfl hO rfl rfl hM
theorem p_o10 {h B a L : Nat} {hc cf kn : Int32} {bb mb mw fv rg sk ms : Nat → Int32} (hB : pB mb bb) (haL : a + 1 ≤ L) (hL : L ≤ 512) (hBL : B ≤ L) (hh : h ≤ 16) (hst : pSt h sk ms) (hkn : ∀ r, r < 8 → pKn kn r → fv r = rg r) (hb : f_Rd_unsigned (nI a) (nI L) 0 bb 1 = some (nI 10, nI (a + 1), 0)) : pOp L (f_Rk_doOne (nI h) hc cf (nI B) (nI a) (nI L) 0 bb mw kn fv sk) (f_Md_operation (nI (a + 1)) (nI L) 0 (nI h) kn mb ms mw rg (nI 10) (nI B) hc cf) := by
  obtain ⟨w, a', b', g1, g2, g3⟩ := p_rdU mb haL hL (c := 2) (by omega)
  have hO : f_Rk_operandOf (nI (a + 1)) (nI L) 0 bb (nI 10) = some (w, nI a', b') := by
    rw [show f_Rk_operandOf (nI (a + 1)) (nI L) 0 bb (nI 10) = ((f_Rd_unsigned (nI (a + 1)) (nI L) 0 bb 2).bind fun q => some (q.1, q.2.1, q.2.2)) from rfl, show f_Rd_unsigned (nI (a + 1)) (nI L) 0 bb 2 = f_Md_unsigned (nI (a + 1)) (nI L) 0 mb 2 from p_uns hB haL hL (c := 2) (by omega), show f_Md_unsigned (nI (a + 1)) (nI L) 0 mb 2 = _ from g1, Option.bind_some]
  have hM : f_Md_operation (nI (a + 1)) (nI L) 0 (nI h) kn mb ms mw rg (nI 10) (nI B) hc cf = (f_Md_pushed b' (nI h) ms w).bind fun u => some (u.1, nI a', b', u.2.1, u.2.2) := by
    rw [show f_Md_operation (nI (a + 1)) (nI L) 0 (nI h) kn mb ms mw rg (nI 10) (nI B) hc cf = ((f_Md_unsigned (nI (a + 1)) (nI L) 0 mb 2).bind fun q => ((f_Md_pushed q.2.2 (nI h) ms q.1).bind fun u => some (u.1, q.2.1, q.2.2, u.2.1, u.2.2))) from rfl, show f_Md_unsigned (nI (a + 1)) (nI L) 0 mb 2 = _ from g1, Option.bind_some]
  exact p_oPush hh hst g2 g3 hb rfl hO rfl rfl hM
theorem p_o11 {h B a L : Nat} {hc cf kn : Int32} {bb mb mw fv rg sk ms : Nat → Int32} (hB : pB mb bb) (haL : a + 1 ≤ L) (hL : L ≤ 512) (hBL : B ≤ L) (hh : h ≤ 16) (hst : pSt h sk ms) (hkn : ∀ r, r < 8 → pKn kn r → fv r = rg r) (hb : f_Rd_unsigned (nI a) (nI L) 0 bb 1 = some (nI 11, nI (a + 1), 0)) : pOp L (f_Rk_doOne (nI h) hc cf (nI B) (nI a) (nI L) 0 bb mw kn fv sk) (f_Md_operation (nI (a + 1)) (nI L) 0 (nI h) kn mb ms mw rg (nI 11) (nI B) hc cf) := by
  obtain ⟨w, a', b', g1, g2, g3⟩ := p_rdS2 mb haL hL
  have hO : f_Rk_operandOf (nI (a + 1)) (nI L) 0 bb (nI 11) = some (w, nI a', b') := by
    rw [show f_Rk_operandOf (nI (a + 1)) (nI L) 0 bb (nI 11) = ((f_Rd_signed (nI (a + 1)) (nI L) 0 bb 2).bind fun q => some (q.1, q.2.1, q.2.2)) from rfl, show f_Rd_signed (nI (a + 1)) (nI L) 0 bb 2 = f_Md_signed (nI (a + 1)) (nI L) 0 mb 2 from p_signed2 hB haL hL, show f_Md_signed (nI (a + 1)) (nI L) 0 mb 2 = _ from g1, Option.bind_some]
  have hM : f_Md_operation (nI (a + 1)) (nI L) 0 (nI h) kn mb ms mw rg (nI 11) (nI B) hc cf = (f_Md_pushed b' (nI h) ms w).bind fun u => some (u.1, nI a', b', u.2.1, u.2.2) := by
    rw [show f_Md_operation (nI (a + 1)) (nI L) 0 (nI h) kn mb ms mw rg (nI 11) (nI B) hc cf = ((f_Md_signed (nI (a + 1)) (nI L) 0 mb 2).bind fun q => ((f_Md_pushed q.2.2 (nI h) ms q.1).bind fun u => some (u.1, q.2.1, q.2.2, u.2.1, u.2.2))) from rfl, show f_Md_signed (nI (a + 1)) (nI L) 0 mb 2 = _ from g1, Option.bind_some]
  exact p_oPush hh hst g2 g3 hb rfl hO rfl rfl hM
theorem p_o16 {h B a L : Nat} {hc cf kn : Int32} {bb mb mw fv rg sk ms : Nat → Int32} (hB : pB mb bb) (haL : a + 1 ≤ L) (hL : L ≤ 512) (hBL : B ≤ L) (hh : h ≤ 16) (hst : pSt h sk ms) (hkn : ∀ r, r < 8 → pKn kn r → fv r = rg r) (hb : f_Rd_unsigned (nI a) (nI L) 0 bb 1 = some (nI 16, nI (a + 1), 0)) : pOp L (f_Rk_doOne (nI h) hc cf (nI B) (nI a) (nI L) 0 bb mw kn fv sk) (f_Md_operation (nI (a + 1)) (nI L) 0 (nI h) kn mb ms mw rg (nI 16) (nI B) hc cf) := by
  obtain ⟨w, a', b', g1, _, g2, g3⟩ := p_Mleb mb haL hL 0 0
  have hO : f_Rk_operandOf (nI (a + 1)) (nI L) 0 bb (nI 16) = some (w, nI a', b') := by
    rw [show f_Rk_operandOf (nI (a + 1)) (nI L) 0 bb (nI 16) = ((f_Rd_uleb (nI (a + 1)) (nI L) 0 bb).bind fun q => some (q.1, q.2.1, q.2.2)) from rfl, show f_Rd_uleb (nI (a + 1)) (nI L) 0 bb = f_Md_leb (nI (a + 1)) (nI L) 0 mb 0 from p_uleb hB haL hL, show f_Md_leb (nI (a + 1)) (nI L) 0 mb 0 = _ from g1, Option.bind_some]
  have hM : f_Md_operation (nI (a + 1)) (nI L) 0 (nI h) kn mb ms mw rg (nI 16) (nI B) hc cf = (f_Md_pushed b' (nI h) ms w).bind fun u => some (u.1, nI a', b', u.2.1, u.2.2) := by
    rw [show f_Md_operation (nI (a + 1)) (nI L) 0 (nI h) kn mb ms mw rg (nI 16) (nI B) hc cf = ((f_Md_leb (nI (a + 1)) (nI L) 0 mb 0).bind fun q => ((f_Md_pushed q.2.2 (nI h) ms q.1).bind fun u => some (u.1, q.2.1, q.2.2, u.2.1, u.2.2))) from rfl, show f_Md_leb (nI (a + 1)) (nI L) 0 mb 0 = _ from g1, Option.bind_some]
  exact p_oPush hh hst g2 g3 hb rfl hO rfl rfl hM
theorem p_o17 {h B a L : Nat} {hc cf kn : Int32} {bb mb mw fv rg sk ms : Nat → Int32} (hB : pB mb bb) (haL : a + 1 ≤ L) (hL : L ≤ 512) (hBL : B ≤ L) (hh : h ≤ 16) (hst : pSt h sk ms) (hkn : ∀ r, r < 8 → pKn kn r → fv r = rg r) (hb : f_Rd_unsigned (nI a) (nI L) 0 bb 1 = some (nI 17, nI (a + 1), 0)) : pOp L (f_Rk_doOne (nI h) hc cf (nI B) (nI a) (nI L) 0 bb mw kn fv sk) (f_Md_operation (nI (a + 1)) (nI L) 0 (nI h) kn mb ms mw rg (nI 17) (nI B) hc cf) := by
  obtain ⟨w, a', b', g1, _, g2, g3⟩ := p_Mleb mb haL hL 1 0
  have hO : f_Rk_operandOf (nI (a + 1)) (nI L) 0 bb (nI 17) = some (w, nI a', b') := by
    rw [show f_Rk_operandOf (nI (a + 1)) (nI L) 0 bb (nI 17) = ((f_Rd_sleb (nI (a + 1)) (nI L) 0 bb).bind fun q => some (q.1, q.2.1, q.2.2)) from rfl, show f_Rd_sleb (nI (a + 1)) (nI L) 0 bb = f_Md_leb (nI (a + 1)) (nI L) 0 mb 1 from p_sleb hB haL hL, show f_Md_leb (nI (a + 1)) (nI L) 0 mb 1 = _ from g1, Option.bind_some]
  have hM : f_Md_operation (nI (a + 1)) (nI L) 0 (nI h) kn mb ms mw rg (nI 17) (nI B) hc cf = (f_Md_pushed b' (nI h) ms w).bind fun u => some (u.1, nI a', b', u.2.1, u.2.2) := by
    rw [show f_Md_operation (nI (a + 1)) (nI L) 0 (nI h) kn mb ms mw rg (nI 17) (nI B) hc cf = ((f_Md_leb (nI (a + 1)) (nI L) 0 mb 1).bind fun q => ((f_Md_pushed q.2.2 (nI h) ms q.1).bind fun u => some (u.1, q.2.1, q.2.2, u.2.1, u.2.2))) from rfl, show f_Md_leb (nI (a + 1)) (nI L) 0 mb 1 = _ from g1, Option.bind_some]
  exact p_oPush hh hst g2 g3 hb rfl hO rfl rfl hM
theorem p_o48 {h B a L : Nat} {hc cf kn : Int32} {bb mb mw fv rg sk ms : Nat → Int32} (hB : pB mb bb) (haL : a + 1 ≤ L) (hL : L ≤ 512) (hBL : B ≤ L) (hh : h ≤ 16) (hst : pSt h sk ms) (hkn : ∀ r, r < 8 → pKn kn r → fv r = rg r) (hb : f_Rd_unsigned (nI a) (nI L) 0 bb 1 = some (nI 48, nI (a + 1), 0)) : pOp L (f_Rk_doOne (nI h) hc cf (nI B) (nI a) (nI L) 0 bb mw kn fv sk) (f_Md_operation (nI (a + 1)) (nI L) 0 (nI h) kn mb ms mw rg (nI 48) (nI B) hc cf) := by
  exact p_oPush (v := nI 48 - 48) hh hst haL (Or.inl rfl) hb rfl rfl rfl rfl rfl
theorem p_o49 {h B a L : Nat} {hc cf kn : Int32} {bb mb mw fv rg sk ms : Nat → Int32} (hB : pB mb bb) (haL : a + 1 ≤ L) (hL : L ≤ 512) (hBL : B ≤ L) (hh : h ≤ 16) (hst : pSt h sk ms) (hkn : ∀ r, r < 8 → pKn kn r → fv r = rg r) (hb : f_Rd_unsigned (nI a) (nI L) 0 bb 1 = some (nI 49, nI (a + 1), 0)) : pOp L (f_Rk_doOne (nI h) hc cf (nI B) (nI a) (nI L) 0 bb mw kn fv sk) (f_Md_operation (nI (a + 1)) (nI L) 0 (nI h) kn mb ms mw rg (nI 49) (nI B) hc cf) := by
  exact p_oPush (v := nI 49 - 48) hh hst haL (Or.inl rfl) hb rfl rfl rfl rfl rfl
theorem p_o50 {h B a L : Nat} {hc cf kn : Int32} {bb mb mw fv rg sk ms : Nat → Int32} (hB : pB mb bb) (haL : a + 1 ≤ L) (hL : L ≤ 512) (hBL : B ≤ L) (hh : h ≤ 16) (hst : pSt h sk ms) (hkn : ∀ r, r < 8 → pKn kn r → fv r = rg r) (hb : f_Rd_unsigned (nI a) (nI L) 0 bb 1 = some (nI 50, nI (a + 1), 0)) : pOp L (f_Rk_doOne (nI h) hc cf (nI B) (nI a) (nI L) 0 bb mw kn fv sk) (f_Md_operation (nI (a + 1)) (nI L) 0 (nI h) kn mb ms mw rg (nI 50) (nI B) hc cf) := by
  exact p_oPush (v := nI 50 - 48) hh hst haL (Or.inl rfl) hb rfl rfl rfl rfl rfl
theorem p_o51 {h B a L : Nat} {hc cf kn : Int32} {bb mb mw fv rg sk ms : Nat → Int32} (hB : pB mb bb) (haL : a + 1 ≤ L) (hL : L ≤ 512) (hBL : B ≤ L) (hh : h ≤ 16) (hst : pSt h sk ms) (hkn : ∀ r, r < 8 → pKn kn r → fv r = rg r) (hb : f_Rd_unsigned (nI a) (nI L) 0 bb 1 = some (nI 51, nI (a + 1), 0)) : pOp L (f_Rk_doOne (nI h) hc cf (nI B) (nI a) (nI L) 0 bb mw kn fv sk) (f_Md_operation (nI (a + 1)) (nI L) 0 (nI h) kn mb ms mw rg (nI 51) (nI B) hc cf) := by
  exact p_oPush (v := nI 51 - 48) hh hst haL (Or.inl rfl) hb rfl rfl rfl rfl rfl
theorem p_o52 {h B a L : Nat} {hc cf kn : Int32} {bb mb mw fv rg sk ms : Nat → Int32} (hB : pB mb bb) (haL : a + 1 ≤ L) (hL : L ≤ 512) (hBL : B ≤ L) (hh : h ≤ 16) (hst : pSt h sk ms) (hkn : ∀ r, r < 8 → pKn kn r → fv r = rg r) (hb : f_Rd_unsigned (nI a) (nI L) 0 bb 1 = some (nI 52, nI (a + 1), 0)) : pOp L (f_Rk_doOne (nI h) hc cf (nI B) (nI a) (nI L) 0 bb mw kn fv sk) (f_Md_operation (nI (a + 1)) (nI L) 0 (nI h) kn mb ms mw rg (nI 52) (nI B) hc cf) := by
  exact p_oPush (v := nI 52 - 48) hh hst haL (Or.inl rfl) hb rfl rfl rfl rfl rfl
theorem p_o53 {h B a L : Nat} {hc cf kn : Int32} {bb mb mw fv rg sk ms : Nat → Int32} (hB : pB mb bb) (haL : a + 1 ≤ L) (hL : L ≤ 512) (hBL : B ≤ L) (hh : h ≤ 16) (hst : pSt h sk ms) (hkn : ∀ r, r < 8 → pKn kn r → fv r = rg r) (hb : f_Rd_unsigned (nI a) (nI L) 0 bb 1 = some (nI 53, nI (a + 1), 0)) : pOp L (f_Rk_doOne (nI h) hc cf (nI B) (nI a) (nI L) 0 bb mw kn fv sk) (f_Md_operation (nI (a + 1)) (nI L) 0 (nI h) kn mb ms mw rg (nI 53) (nI B) hc cf) := by
  exact p_oPush (v := nI 53 - 48) hh hst haL (Or.inl rfl) hb rfl rfl rfl rfl rfl
theorem p_o54 {h B a L : Nat} {hc cf kn : Int32} {bb mb mw fv rg sk ms : Nat → Int32} (hB : pB mb bb) (haL : a + 1 ≤ L) (hL : L ≤ 512) (hBL : B ≤ L) (hh : h ≤ 16) (hst : pSt h sk ms) (hkn : ∀ r, r < 8 → pKn kn r → fv r = rg r) (hb : f_Rd_unsigned (nI a) (nI L) 0 bb 1 = some (nI 54, nI (a + 1), 0)) : pOp L (f_Rk_doOne (nI h) hc cf (nI B) (nI a) (nI L) 0 bb mw kn fv sk) (f_Md_operation (nI (a + 1)) (nI L) 0 (nI h) kn mb ms mw rg (nI 54) (nI B) hc cf) := by
  exact p_oPush (v := nI 54 - 48) hh hst haL (Or.inl rfl) hb rfl rfl rfl rfl rfl
theorem p_o55 {h B a L : Nat} {hc cf kn : Int32} {bb mb mw fv rg sk ms : Nat → Int32} (hB : pB mb bb) (haL : a + 1 ≤ L) (hL : L ≤ 512) (hBL : B ≤ L) (hh : h ≤ 16) (hst : pSt h sk ms) (hkn : ∀ r, r < 8 → pKn kn r → fv r = rg r) (hb : f_Rd_unsigned (nI a) (nI L) 0 bb 1 = some (nI 55, nI (a + 1), 0)) : pOp L (f_Rk_doOne (nI h) hc cf (nI B) (nI a) (nI L) 0 bb mw kn fv sk) (f_Md_operation (nI (a + 1)) (nI L) 0 (nI h) kn mb ms mw rg (nI 55) (nI B) hc cf) := by
  exact p_oPush (v := nI 55 - 48) hh hst haL (Or.inl rfl) hb rfl rfl rfl rfl rfl
theorem p_o56 {h B a L : Nat} {hc cf kn : Int32} {bb mb mw fv rg sk ms : Nat → Int32} (hB : pB mb bb) (haL : a + 1 ≤ L) (hL : L ≤ 512) (hBL : B ≤ L) (hh : h ≤ 16) (hst : pSt h sk ms) (hkn : ∀ r, r < 8 → pKn kn r → fv r = rg r) (hb : f_Rd_unsigned (nI a) (nI L) 0 bb 1 = some (nI 56, nI (a + 1), 0)) : pOp L (f_Rk_doOne (nI h) hc cf (nI B) (nI a) (nI L) 0 bb mw kn fv sk) (f_Md_operation (nI (a + 1)) (nI L) 0 (nI h) kn mb ms mw rg (nI 56) (nI B) hc cf) := by
  exact p_oPush (v := nI 56 - 48) hh hst haL (Or.inl rfl) hb rfl rfl rfl rfl rfl
theorem p_o57 {h B a L : Nat} {hc cf kn : Int32} {bb mb mw fv rg sk ms : Nat → Int32} (hB : pB mb bb) (haL : a + 1 ≤ L) (hL : L ≤ 512) (hBL : B ≤ L) (hh : h ≤ 16) (hst : pSt h sk ms) (hkn : ∀ r, r < 8 → pKn kn r → fv r = rg r) (hb : f_Rd_unsigned (nI a) (nI L) 0 bb 1 = some (nI 57, nI (a + 1), 0)) : pOp L (f_Rk_doOne (nI h) hc cf (nI B) (nI a) (nI L) 0 bb mw kn fv sk) (f_Md_operation (nI (a + 1)) (nI L) 0 (nI h) kn mb ms mw rg (nI 57) (nI B) hc cf) := by
  exact p_oPush (v := nI 57 - 48) hh hst haL (Or.inl rfl) hb rfl rfl rfl rfl rfl
theorem p_o58 {h B a L : Nat} {hc cf kn : Int32} {bb mb mw fv rg sk ms : Nat → Int32} (hB : pB mb bb) (haL : a + 1 ≤ L) (hL : L ≤ 512) (hBL : B ≤ L) (hh : h ≤ 16) (hst : pSt h sk ms) (hkn : ∀ r, r < 8 → pKn kn r → fv r = rg r) (hb : f_Rd_unsigned (nI a) (nI L) 0 bb 1 = some (nI 58, nI (a + 1), 0)) : pOp L (f_Rk_doOne (nI h) hc cf (nI B) (nI a) (nI L) 0 bb mw kn fv sk) (f_Md_operation (nI (a + 1)) (nI L) 0 (nI h) kn mb ms mw rg (nI 58) (nI B) hc cf) := by
  exact p_oPush (v := nI 58 - 48) hh hst haL (Or.inl rfl) hb rfl rfl rfl rfl rfl
theorem p_o59 {h B a L : Nat} {hc cf kn : Int32} {bb mb mw fv rg sk ms : Nat → Int32} (hB : pB mb bb) (haL : a + 1 ≤ L) (hL : L ≤ 512) (hBL : B ≤ L) (hh : h ≤ 16) (hst : pSt h sk ms) (hkn : ∀ r, r < 8 → pKn kn r → fv r = rg r) (hb : f_Rd_unsigned (nI a) (nI L) 0 bb 1 = some (nI 59, nI (a + 1), 0)) : pOp L (f_Rk_doOne (nI h) hc cf (nI B) (nI a) (nI L) 0 bb mw kn fv sk) (f_Md_operation (nI (a + 1)) (nI L) 0 (nI h) kn mb ms mw rg (nI 59) (nI B) hc cf) := by
  exact p_oPush (v := nI 59 - 48) hh hst haL (Or.inl rfl) hb rfl rfl rfl rfl rfl
theorem p_o60 {h B a L : Nat} {hc cf kn : Int32} {bb mb mw fv rg sk ms : Nat → Int32} (hB : pB mb bb) (haL : a + 1 ≤ L) (hL : L ≤ 512) (hBL : B ≤ L) (hh : h ≤ 16) (hst : pSt h sk ms) (hkn : ∀ r, r < 8 → pKn kn r → fv r = rg r) (hb : f_Rd_unsigned (nI a) (nI L) 0 bb 1 = some (nI 60, nI (a + 1), 0)) : pOp L (f_Rk_doOne (nI h) hc cf (nI B) (nI a) (nI L) 0 bb mw kn fv sk) (f_Md_operation (nI (a + 1)) (nI L) 0 (nI h) kn mb ms mw rg (nI 60) (nI B) hc cf) := by
  exact p_oPush (v := nI 60 - 48) hh hst haL (Or.inl rfl) hb rfl rfl rfl rfl rfl
theorem p_o61 {h B a L : Nat} {hc cf kn : Int32} {bb mb mw fv rg sk ms : Nat → Int32} (hB : pB mb bb) (haL : a + 1 ≤ L) (hL : L ≤ 512) (hBL : B ≤ L) (hh : h ≤ 16) (hst : pSt h sk ms) (hkn : ∀ r, r < 8 → pKn kn r → fv r = rg r) (hb : f_Rd_unsigned (nI a) (nI L) 0 bb 1 = some (nI 61, nI (a + 1), 0)) : pOp L (f_Rk_doOne (nI h) hc cf (nI B) (nI a) (nI L) 0 bb mw kn fv sk) (f_Md_operation (nI (a + 1)) (nI L) 0 (nI h) kn mb ms mw rg (nI 61) (nI B) hc cf) := by
  exact p_oPush (v := nI 61 - 48) hh hst haL (Or.inl rfl) hb rfl rfl rfl rfl rfl
theorem p_o62 {h B a L : Nat} {hc cf kn : Int32} {bb mb mw fv rg sk ms : Nat → Int32} (hB : pB mb bb) (haL : a + 1 ≤ L) (hL : L ≤ 512) (hBL : B ≤ L) (hh : h ≤ 16) (hst : pSt h sk ms) (hkn : ∀ r, r < 8 → pKn kn r → fv r = rg r) (hb : f_Rd_unsigned (nI a) (nI L) 0 bb 1 = some (nI 62, nI (a + 1), 0)) : pOp L (f_Rk_doOne (nI h) hc cf (nI B) (nI a) (nI L) 0 bb mw kn fv sk) (f_Md_operation (nI (a + 1)) (nI L) 0 (nI h) kn mb ms mw rg (nI 62) (nI B) hc cf) := by
  exact p_oPush (v := nI 62 - 48) hh hst haL (Or.inl rfl) hb rfl rfl rfl rfl rfl
theorem p_o63 {h B a L : Nat} {hc cf kn : Int32} {bb mb mw fv rg sk ms : Nat → Int32} (hB : pB mb bb) (haL : a + 1 ≤ L) (hL : L ≤ 512) (hBL : B ≤ L) (hh : h ≤ 16) (hst : pSt h sk ms) (hkn : ∀ r, r < 8 → pKn kn r → fv r = rg r) (hb : f_Rd_unsigned (nI a) (nI L) 0 bb 1 = some (nI 63, nI (a + 1), 0)) : pOp L (f_Rk_doOne (nI h) hc cf (nI B) (nI a) (nI L) 0 bb mw kn fv sk) (f_Md_operation (nI (a + 1)) (nI L) 0 (nI h) kn mb ms mw rg (nI 63) (nI B) hc cf) := by
  exact p_oPush (v := nI 63 - 48) hh hst haL (Or.inl rfl) hb rfl rfl rfl rfl rfl
theorem p_o64 {h B a L : Nat} {hc cf kn : Int32} {bb mb mw fv rg sk ms : Nat → Int32} (hB : pB mb bb) (haL : a + 1 ≤ L) (hL : L ≤ 512) (hBL : B ≤ L) (hh : h ≤ 16) (hst : pSt h sk ms) (hkn : ∀ r, r < 8 → pKn kn r → fv r = rg r) (hb : f_Rd_unsigned (nI a) (nI L) 0 bb 1 = some (nI 64, nI (a + 1), 0)) : pOp L (f_Rk_doOne (nI h) hc cf (nI B) (nI a) (nI L) 0 bb mw kn fv sk) (f_Md_operation (nI (a + 1)) (nI L) 0 (nI h) kn mb ms mw rg (nI 64) (nI B) hc cf) := by
  exact p_oPush (v := nI 64 - 48) hh hst haL (Or.inl rfl) hb rfl rfl rfl rfl rfl
theorem p_o65 {h B a L : Nat} {hc cf kn : Int32} {bb mb mw fv rg sk ms : Nat → Int32} (hB : pB mb bb) (haL : a + 1 ≤ L) (hL : L ≤ 512) (hBL : B ≤ L) (hh : h ≤ 16) (hst : pSt h sk ms) (hkn : ∀ r, r < 8 → pKn kn r → fv r = rg r) (hb : f_Rd_unsigned (nI a) (nI L) 0 bb 1 = some (nI 65, nI (a + 1), 0)) : pOp L (f_Rk_doOne (nI h) hc cf (nI B) (nI a) (nI L) 0 bb mw kn fv sk) (f_Md_operation (nI (a + 1)) (nI L) 0 (nI h) kn mb ms mw rg (nI 65) (nI B) hc cf) := by
  exact p_oPush (v := nI 65 - 48) hh hst haL (Or.inl rfl) hb rfl rfl rfl rfl rfl
theorem p_o66 {h B a L : Nat} {hc cf kn : Int32} {bb mb mw fv rg sk ms : Nat → Int32} (hB : pB mb bb) (haL : a + 1 ≤ L) (hL : L ≤ 512) (hBL : B ≤ L) (hh : h ≤ 16) (hst : pSt h sk ms) (hkn : ∀ r, r < 8 → pKn kn r → fv r = rg r) (hb : f_Rd_unsigned (nI a) (nI L) 0 bb 1 = some (nI 66, nI (a + 1), 0)) : pOp L (f_Rk_doOne (nI h) hc cf (nI B) (nI a) (nI L) 0 bb mw kn fv sk) (f_Md_operation (nI (a + 1)) (nI L) 0 (nI h) kn mb ms mw rg (nI 66) (nI B) hc cf) := by
  exact p_oPush (v := nI 66 - 48) hh hst haL (Or.inl rfl) hb rfl rfl rfl rfl rfl
theorem p_o67 {h B a L : Nat} {hc cf kn : Int32} {bb mb mw fv rg sk ms : Nat → Int32} (hB : pB mb bb) (haL : a + 1 ≤ L) (hL : L ≤ 512) (hBL : B ≤ L) (hh : h ≤ 16) (hst : pSt h sk ms) (hkn : ∀ r, r < 8 → pKn kn r → fv r = rg r) (hb : f_Rd_unsigned (nI a) (nI L) 0 bb 1 = some (nI 67, nI (a + 1), 0)) : pOp L (f_Rk_doOne (nI h) hc cf (nI B) (nI a) (nI L) 0 bb mw kn fv sk) (f_Md_operation (nI (a + 1)) (nI L) 0 (nI h) kn mb ms mw rg (nI 67) (nI B) hc cf) := by
  exact p_oPush (v := nI 67 - 48) hh hst haL (Or.inl rfl) hb rfl rfl rfl rfl rfl
theorem p_o68 {h B a L : Nat} {hc cf kn : Int32} {bb mb mw fv rg sk ms : Nat → Int32} (hB : pB mb bb) (haL : a + 1 ≤ L) (hL : L ≤ 512) (hBL : B ≤ L) (hh : h ≤ 16) (hst : pSt h sk ms) (hkn : ∀ r, r < 8 → pKn kn r → fv r = rg r) (hb : f_Rd_unsigned (nI a) (nI L) 0 bb 1 = some (nI 68, nI (a + 1), 0)) : pOp L (f_Rk_doOne (nI h) hc cf (nI B) (nI a) (nI L) 0 bb mw kn fv sk) (f_Md_operation (nI (a + 1)) (nI L) 0 (nI h) kn mb ms mw rg (nI 68) (nI B) hc cf) := by
  exact p_oPush (v := nI 68 - 48) hh hst haL (Or.inl rfl) hb rfl rfl rfl rfl rfl
theorem p_o69 {h B a L : Nat} {hc cf kn : Int32} {bb mb mw fv rg sk ms : Nat → Int32} (hB : pB mb bb) (haL : a + 1 ≤ L) (hL : L ≤ 512) (hBL : B ≤ L) (hh : h ≤ 16) (hst : pSt h sk ms) (hkn : ∀ r, r < 8 → pKn kn r → fv r = rg r) (hb : f_Rd_unsigned (nI a) (nI L) 0 bb 1 = some (nI 69, nI (a + 1), 0)) : pOp L (f_Rk_doOne (nI h) hc cf (nI B) (nI a) (nI L) 0 bb mw kn fv sk) (f_Md_operation (nI (a + 1)) (nI L) 0 (nI h) kn mb ms mw rg (nI 69) (nI B) hc cf) := by
  exact p_oPush (v := nI 69 - 48) hh hst haL (Or.inl rfl) hb rfl rfl rfl rfl rfl
theorem p_o70 {h B a L : Nat} {hc cf kn : Int32} {bb mb mw fv rg sk ms : Nat → Int32} (hB : pB mb bb) (haL : a + 1 ≤ L) (hL : L ≤ 512) (hBL : B ≤ L) (hh : h ≤ 16) (hst : pSt h sk ms) (hkn : ∀ r, r < 8 → pKn kn r → fv r = rg r) (hb : f_Rd_unsigned (nI a) (nI L) 0 bb 1 = some (nI 70, nI (a + 1), 0)) : pOp L (f_Rk_doOne (nI h) hc cf (nI B) (nI a) (nI L) 0 bb mw kn fv sk) (f_Md_operation (nI (a + 1)) (nI L) 0 (nI h) kn mb ms mw rg (nI 70) (nI B) hc cf) := by
  exact p_oPush (v := nI 70 - 48) hh hst haL (Or.inl rfl) hb rfl rfl rfl rfl rfl
theorem p_o71 {h B a L : Nat} {hc cf kn : Int32} {bb mb mw fv rg sk ms : Nat → Int32} (hB : pB mb bb) (haL : a + 1 ≤ L) (hL : L ≤ 512) (hBL : B ≤ L) (hh : h ≤ 16) (hst : pSt h sk ms) (hkn : ∀ r, r < 8 → pKn kn r → fv r = rg r) (hb : f_Rd_unsigned (nI a) (nI L) 0 bb 1 = some (nI 71, nI (a + 1), 0)) : pOp L (f_Rk_doOne (nI h) hc cf (nI B) (nI a) (nI L) 0 bb mw kn fv sk) (f_Md_operation (nI (a + 1)) (nI L) 0 (nI h) kn mb ms mw rg (nI 71) (nI B) hc cf) := by
  exact p_oPush (v := nI 71 - 48) hh hst haL (Or.inl rfl) hb rfl rfl rfl rfl rfl
theorem p_o72 {h B a L : Nat} {hc cf kn : Int32} {bb mb mw fv rg sk ms : Nat → Int32} (hB : pB mb bb) (haL : a + 1 ≤ L) (hL : L ≤ 512) (hBL : B ≤ L) (hh : h ≤ 16) (hst : pSt h sk ms) (hkn : ∀ r, r < 8 → pKn kn r → fv r = rg r) (hb : f_Rd_unsigned (nI a) (nI L) 0 bb 1 = some (nI 72, nI (a + 1), 0)) : pOp L (f_Rk_doOne (nI h) hc cf (nI B) (nI a) (nI L) 0 bb mw kn fv sk) (f_Md_operation (nI (a + 1)) (nI L) 0 (nI h) kn mb ms mw rg (nI 72) (nI B) hc cf) := by
  exact p_oPush (v := nI 72 - 48) hh hst haL (Or.inl rfl) hb rfl rfl rfl rfl rfl
theorem p_o73 {h B a L : Nat} {hc cf kn : Int32} {bb mb mw fv rg sk ms : Nat → Int32} (hB : pB mb bb) (haL : a + 1 ≤ L) (hL : L ≤ 512) (hBL : B ≤ L) (hh : h ≤ 16) (hst : pSt h sk ms) (hkn : ∀ r, r < 8 → pKn kn r → fv r = rg r) (hb : f_Rd_unsigned (nI a) (nI L) 0 bb 1 = some (nI 73, nI (a + 1), 0)) : pOp L (f_Rk_doOne (nI h) hc cf (nI B) (nI a) (nI L) 0 bb mw kn fv sk) (f_Md_operation (nI (a + 1)) (nI L) 0 (nI h) kn mb ms mw rg (nI 73) (nI B) hc cf) := by
  exact p_oPush (v := nI 73 - 48) hh hst haL (Or.inl rfl) hb rfl rfl rfl rfl rfl
theorem p_o74 {h B a L : Nat} {hc cf kn : Int32} {bb mb mw fv rg sk ms : Nat → Int32} (hB : pB mb bb) (haL : a + 1 ≤ L) (hL : L ≤ 512) (hBL : B ≤ L) (hh : h ≤ 16) (hst : pSt h sk ms) (hkn : ∀ r, r < 8 → pKn kn r → fv r = rg r) (hb : f_Rd_unsigned (nI a) (nI L) 0 bb 1 = some (nI 74, nI (a + 1), 0)) : pOp L (f_Rk_doOne (nI h) hc cf (nI B) (nI a) (nI L) 0 bb mw kn fv sk) (f_Md_operation (nI (a + 1)) (nI L) 0 (nI h) kn mb ms mw rg (nI 74) (nI B) hc cf) := by
  exact p_oPush (v := nI 74 - 48) hh hst haL (Or.inl rfl) hb rfl rfl rfl rfl rfl
theorem p_o75 {h B a L : Nat} {hc cf kn : Int32} {bb mb mw fv rg sk ms : Nat → Int32} (hB : pB mb bb) (haL : a + 1 ≤ L) (hL : L ≤ 512) (hBL : B ≤ L) (hh : h ≤ 16) (hst : pSt h sk ms) (hkn : ∀ r, r < 8 → pKn kn r → fv r = rg r) (hb : f_Rd_unsigned (nI a) (nI L) 0 bb 1 = some (nI 75, nI (a + 1), 0)) : pOp L (f_Rk_doOne (nI h) hc cf (nI B) (nI a) (nI L) 0 bb mw kn fv sk) (f_Md_operation (nI (a + 1)) (nI L) 0 (nI h) kn mb ms mw rg (nI 75) (nI B) hc cf) := by
  exact p_oPush (v := nI 75 - 48) hh hst haL (Or.inl rfl) hb rfl rfl rfl rfl rfl
theorem p_o76 {h B a L : Nat} {hc cf kn : Int32} {bb mb mw fv rg sk ms : Nat → Int32} (hB : pB mb bb) (haL : a + 1 ≤ L) (hL : L ≤ 512) (hBL : B ≤ L) (hh : h ≤ 16) (hst : pSt h sk ms) (hkn : ∀ r, r < 8 → pKn kn r → fv r = rg r) (hb : f_Rd_unsigned (nI a) (nI L) 0 bb 1 = some (nI 76, nI (a + 1), 0)) : pOp L (f_Rk_doOne (nI h) hc cf (nI B) (nI a) (nI L) 0 bb mw kn fv sk) (f_Md_operation (nI (a + 1)) (nI L) 0 (nI h) kn mb ms mw rg (nI 76) (nI B) hc cf) := by
  exact p_oPush (v := nI 76 - 48) hh hst haL (Or.inl rfl) hb rfl rfl rfl rfl rfl
theorem p_o77 {h B a L : Nat} {hc cf kn : Int32} {bb mb mw fv rg sk ms : Nat → Int32} (hB : pB mb bb) (haL : a + 1 ≤ L) (hL : L ≤ 512) (hBL : B ≤ L) (hh : h ≤ 16) (hst : pSt h sk ms) (hkn : ∀ r, r < 8 → pKn kn r → fv r = rg r) (hb : f_Rd_unsigned (nI a) (nI L) 0 bb 1 = some (nI 77, nI (a + 1), 0)) : pOp L (f_Rk_doOne (nI h) hc cf (nI B) (nI a) (nI L) 0 bb mw kn fv sk) (f_Md_operation (nI (a + 1)) (nI L) 0 (nI h) kn mb ms mw rg (nI 77) (nI B) hc cf) := by
  exact p_oPush (v := nI 77 - 48) hh hst haL (Or.inl rfl) hb rfl rfl rfl rfl rfl
theorem p_o78 {h B a L : Nat} {hc cf kn : Int32} {bb mb mw fv rg sk ms : Nat → Int32} (hB : pB mb bb) (haL : a + 1 ≤ L) (hL : L ≤ 512) (hBL : B ≤ L) (hh : h ≤ 16) (hst : pSt h sk ms) (hkn : ∀ r, r < 8 → pKn kn r → fv r = rg r) (hb : f_Rd_unsigned (nI a) (nI L) 0 bb 1 = some (nI 78, nI (a + 1), 0)) : pOp L (f_Rk_doOne (nI h) hc cf (nI B) (nI a) (nI L) 0 bb mw kn fv sk) (f_Md_operation (nI (a + 1)) (nI L) 0 (nI h) kn mb ms mw rg (nI 78) (nI B) hc cf) := by
  exact p_oPush (v := nI 78 - 48) hh hst haL (Or.inl rfl) hb rfl rfl rfl rfl rfl
theorem p_o79 {h B a L : Nat} {hc cf kn : Int32} {bb mb mw fv rg sk ms : Nat → Int32} (hB : pB mb bb) (haL : a + 1 ≤ L) (hL : L ≤ 512) (hBL : B ≤ L) (hh : h ≤ 16) (hst : pSt h sk ms) (hkn : ∀ r, r < 8 → pKn kn r → fv r = rg r) (hb : f_Rd_unsigned (nI a) (nI L) 0 bb 1 = some (nI 79, nI (a + 1), 0)) : pOp L (f_Rk_doOne (nI h) hc cf (nI B) (nI a) (nI L) 0 bb mw kn fv sk) (f_Md_operation (nI (a + 1)) (nI L) 0 (nI h) kn mb ms mw rg (nI 79) (nI B) hc cf) := by
  exact p_oPush (v := nI 79 - 48) hh hst haL (Or.inl rfl) hb rfl rfl rfl rfl rfl
theorem p_o112 {h B a L : Nat} {hc cf kn : Int32} {bb mb mw fv rg sk ms : Nat → Int32} (hB : pB mb bb) (haL : a + 1 ≤ L) (hL : L ≤ 512) (hBL : B ≤ L) (hh : h ≤ 16) (hst : pSt h sk ms) (hkn : ∀ r, r < 8 → pKn kn r → fv r = rg r) (hb : f_Rd_unsigned (nI a) (nI L) 0 bb 1 = some (nI 112, nI (a + 1), 0)) : pOp L (f_Rk_doOne (nI h) hc cf (nI B) (nI a) (nI L) 0 bb mw kn fv sk) (f_Md_operation (nI (a + 1)) (nI L) 0 (nI h) kn mb ms mw rg (nI 112) (nI B) hc cf) := by
  obtain ⟨w, a', b', g1, _, g2, g3⟩ := p_Mleb mb haL hL 1 0
  have hO : f_Rk_operandOf (nI (a + 1)) (nI L) 0 bb (nI 112) = some (w, nI a', b') := by
    rw [show f_Rk_operandOf (nI (a + 1)) (nI L) 0 bb (nI 112) = ((f_Rd_sleb (nI (a + 1)) (nI L) 0 bb).bind fun q => some (q.1, q.2.1, q.2.2)) from rfl, p_sleb hB haL hL, g1, Option.bind_some]
  have hM : f_Md_operation (nI (a + 1)) (nI L) 0 (nI h) kn mb ms mw rg (nI 112) (nI B) hc cf = if (nI 112 - 112) < 0 ∨ 8 ≤ (nI 112 - 112).toNatClampNeg then none else ((f_Md_pushed b' (nI h) ms ((rg (nI 112 - 112).toNatClampNeg) + w)).bind fun q144 => if q144.1 = 0 then (if ((kn >>> ((nI 112 - 112) &&& 31)) &&& 1) = 1 then (some (0, nI a', b', q144.2.1, q144.2.2)) else (some (4, nI a', b', q144.2.1, q144.2.2))) else (some (q144.1, nI a', b', q144.2.1, q144.2.2))) := by
    rw [show f_Md_operation (nI (a + 1)) (nI L) 0 (nI h) kn mb ms mw rg (nI 112) (nI B) hc cf = ((f_Md_leb (nI (a + 1)) (nI L) 0 mb 1).bind fun q122 => if (nI 112 - 112) < 0 ∨ 8 ≤ (nI 112 - 112).toNatClampNeg then none else ((f_Md_pushed q122.2.2 (nI h) ms ((rg (nI 112 - 112).toNatClampNeg) + q122.1)).bind fun q144 => if q144.1 = 0 then (if ((kn >>> ((nI 112 - 112) &&& 31)) &&& 1) = 1 then (some (0, q122.2.1, q122.2.2, q144.2.1, q144.2.2)) else (some (4, q122.2.1, q122.2.2, q144.2.1, q144.2.2))) else (some (q144.1, q122.2.1, q122.2.2, q144.2.1, q144.2.2)))) from rfl, g1, Option.bind_some]
  exact p_oReg (r := 0) hh hst g2 g3 (by omega) (by decide) (hkn 0 (by omega)) hb rfl hO rfl rfl hM
theorem p_o113 {h B a L : Nat} {hc cf kn : Int32} {bb mb mw fv rg sk ms : Nat → Int32} (hB : pB mb bb) (haL : a + 1 ≤ L) (hL : L ≤ 512) (hBL : B ≤ L) (hh : h ≤ 16) (hst : pSt h sk ms) (hkn : ∀ r, r < 8 → pKn kn r → fv r = rg r) (hb : f_Rd_unsigned (nI a) (nI L) 0 bb 1 = some (nI 113, nI (a + 1), 0)) : pOp L (f_Rk_doOne (nI h) hc cf (nI B) (nI a) (nI L) 0 bb mw kn fv sk) (f_Md_operation (nI (a + 1)) (nI L) 0 (nI h) kn mb ms mw rg (nI 113) (nI B) hc cf) := by
  obtain ⟨w, a', b', g1, _, g2, g3⟩ := p_Mleb mb haL hL 1 0
  have hO : f_Rk_operandOf (nI (a + 1)) (nI L) 0 bb (nI 113) = some (w, nI a', b') := by
    rw [show f_Rk_operandOf (nI (a + 1)) (nI L) 0 bb (nI 113) = ((f_Rd_sleb (nI (a + 1)) (nI L) 0 bb).bind fun q => some (q.1, q.2.1, q.2.2)) from rfl, p_sleb hB haL hL, g1, Option.bind_some]
  have hM : f_Md_operation (nI (a + 1)) (nI L) 0 (nI h) kn mb ms mw rg (nI 113) (nI B) hc cf = if (nI 113 - 112) < 0 ∨ 8 ≤ (nI 113 - 112).toNatClampNeg then none else ((f_Md_pushed b' (nI h) ms ((rg (nI 113 - 112).toNatClampNeg) + w)).bind fun q144 => if q144.1 = 0 then (if ((kn >>> ((nI 113 - 112) &&& 31)) &&& 1) = 1 then (some (0, nI a', b', q144.2.1, q144.2.2)) else (some (4, nI a', b', q144.2.1, q144.2.2))) else (some (q144.1, nI a', b', q144.2.1, q144.2.2))) := by
    rw [show f_Md_operation (nI (a + 1)) (nI L) 0 (nI h) kn mb ms mw rg (nI 113) (nI B) hc cf = ((f_Md_leb (nI (a + 1)) (nI L) 0 mb 1).bind fun q122 => if (nI 113 - 112) < 0 ∨ 8 ≤ (nI 113 - 112).toNatClampNeg then none else ((f_Md_pushed q122.2.2 (nI h) ms ((rg (nI 113 - 112).toNatClampNeg) + q122.1)).bind fun q144 => if q144.1 = 0 then (if ((kn >>> ((nI 113 - 112) &&& 31)) &&& 1) = 1 then (some (0, q122.2.1, q122.2.2, q144.2.1, q144.2.2)) else (some (4, q122.2.1, q122.2.2, q144.2.1, q144.2.2))) else (some (q144.1, q122.2.1, q122.2.2, q144.2.1, q144.2.2)))) from rfl, g1, Option.bind_some]
  exact p_oReg (r := 1) hh hst g2 g3 (by omega) (by decide) (hkn 1 (by omega)) hb rfl hO rfl rfl hM
theorem p_o114 {h B a L : Nat} {hc cf kn : Int32} {bb mb mw fv rg sk ms : Nat → Int32} (hB : pB mb bb) (haL : a + 1 ≤ L) (hL : L ≤ 512) (hBL : B ≤ L) (hh : h ≤ 16) (hst : pSt h sk ms) (hkn : ∀ r, r < 8 → pKn kn r → fv r = rg r) (hb : f_Rd_unsigned (nI a) (nI L) 0 bb 1 = some (nI 114, nI (a + 1), 0)) : pOp L (f_Rk_doOne (nI h) hc cf (nI B) (nI a) (nI L) 0 bb mw kn fv sk) (f_Md_operation (nI (a + 1)) (nI L) 0 (nI h) kn mb ms mw rg (nI 114) (nI B) hc cf) := by
  obtain ⟨w, a', b', g1, _, g2, g3⟩ := p_Mleb mb haL hL 1 0
  have hO : f_Rk_operandOf (nI (a + 1)) (nI L) 0 bb (nI 114) = some (w, nI a', b') := by
    rw [show f_Rk_operandOf (nI (a + 1)) (nI L) 0 bb (nI 114) = ((f_Rd_sleb (nI (a + 1)) (nI L) 0 bb).bind fun q => some (q.1, q.2.1, q.2.2)) from rfl, p_sleb hB haL hL, g1, Option.bind_some]
  have hM : f_Md_operation (nI (a + 1)) (nI L) 0 (nI h) kn mb ms mw rg (nI 114) (nI B) hc cf = if (nI 114 - 112) < 0 ∨ 8 ≤ (nI 114 - 112).toNatClampNeg then none else ((f_Md_pushed b' (nI h) ms ((rg (nI 114 - 112).toNatClampNeg) + w)).bind fun q144 => if q144.1 = 0 then (if ((kn >>> ((nI 114 - 112) &&& 31)) &&& 1) = 1 then (some (0, nI a', b', q144.2.1, q144.2.2)) else (some (4, nI a', b', q144.2.1, q144.2.2))) else (some (q144.1, nI a', b', q144.2.1, q144.2.2))) := by
    rw [show f_Md_operation (nI (a + 1)) (nI L) 0 (nI h) kn mb ms mw rg (nI 114) (nI B) hc cf = ((f_Md_leb (nI (a + 1)) (nI L) 0 mb 1).bind fun q122 => if (nI 114 - 112) < 0 ∨ 8 ≤ (nI 114 - 112).toNatClampNeg then none else ((f_Md_pushed q122.2.2 (nI h) ms ((rg (nI 114 - 112).toNatClampNeg) + q122.1)).bind fun q144 => if q144.1 = 0 then (if ((kn >>> ((nI 114 - 112) &&& 31)) &&& 1) = 1 then (some (0, q122.2.1, q122.2.2, q144.2.1, q144.2.2)) else (some (4, q122.2.1, q122.2.2, q144.2.1, q144.2.2))) else (some (q144.1, q122.2.1, q122.2.2, q144.2.1, q144.2.2)))) from rfl, g1, Option.bind_some]
  exact p_oReg (r := 2) hh hst g2 g3 (by omega) (by decide) (hkn 2 (by omega)) hb rfl hO rfl rfl hM
theorem p_o115 {h B a L : Nat} {hc cf kn : Int32} {bb mb mw fv rg sk ms : Nat → Int32} (hB : pB mb bb) (haL : a + 1 ≤ L) (hL : L ≤ 512) (hBL : B ≤ L) (hh : h ≤ 16) (hst : pSt h sk ms) (hkn : ∀ r, r < 8 → pKn kn r → fv r = rg r) (hb : f_Rd_unsigned (nI a) (nI L) 0 bb 1 = some (nI 115, nI (a + 1), 0)) : pOp L (f_Rk_doOne (nI h) hc cf (nI B) (nI a) (nI L) 0 bb mw kn fv sk) (f_Md_operation (nI (a + 1)) (nI L) 0 (nI h) kn mb ms mw rg (nI 115) (nI B) hc cf) := by
  obtain ⟨w, a', b', g1, _, g2, g3⟩ := p_Mleb mb haL hL 1 0
  have hO : f_Rk_operandOf (nI (a + 1)) (nI L) 0 bb (nI 115) = some (w, nI a', b') := by
    rw [show f_Rk_operandOf (nI (a + 1)) (nI L) 0 bb (nI 115) = ((f_Rd_sleb (nI (a + 1)) (nI L) 0 bb).bind fun q => some (q.1, q.2.1, q.2.2)) from rfl, p_sleb hB haL hL, g1, Option.bind_some]
  have hM : f_Md_operation (nI (a + 1)) (nI L) 0 (nI h) kn mb ms mw rg (nI 115) (nI B) hc cf = if (nI 115 - 112) < 0 ∨ 8 ≤ (nI 115 - 112).toNatClampNeg then none else ((f_Md_pushed b' (nI h) ms ((rg (nI 115 - 112).toNatClampNeg) + w)).bind fun q144 => if q144.1 = 0 then (if ((kn >>> ((nI 115 - 112) &&& 31)) &&& 1) = 1 then (some (0, nI a', b', q144.2.1, q144.2.2)) else (some (4, nI a', b', q144.2.1, q144.2.2))) else (some (q144.1, nI a', b', q144.2.1, q144.2.2))) := by
    rw [show f_Md_operation (nI (a + 1)) (nI L) 0 (nI h) kn mb ms mw rg (nI 115) (nI B) hc cf = ((f_Md_leb (nI (a + 1)) (nI L) 0 mb 1).bind fun q122 => if (nI 115 - 112) < 0 ∨ 8 ≤ (nI 115 - 112).toNatClampNeg then none else ((f_Md_pushed q122.2.2 (nI h) ms ((rg (nI 115 - 112).toNatClampNeg) + q122.1)).bind fun q144 => if q144.1 = 0 then (if ((kn >>> ((nI 115 - 112) &&& 31)) &&& 1) = 1 then (some (0, q122.2.1, q122.2.2, q144.2.1, q144.2.2)) else (some (4, q122.2.1, q122.2.2, q144.2.1, q144.2.2))) else (some (q144.1, q122.2.1, q122.2.2, q144.2.1, q144.2.2)))) from rfl, g1, Option.bind_some]
  exact p_oReg (r := 3) hh hst g2 g3 (by omega) (by decide) (hkn 3 (by omega)) hb rfl hO rfl rfl hM
theorem p_o116 {h B a L : Nat} {hc cf kn : Int32} {bb mb mw fv rg sk ms : Nat → Int32} (hB : pB mb bb) (haL : a + 1 ≤ L) (hL : L ≤ 512) (hBL : B ≤ L) (hh : h ≤ 16) (hst : pSt h sk ms) (hkn : ∀ r, r < 8 → pKn kn r → fv r = rg r) (hb : f_Rd_unsigned (nI a) (nI L) 0 bb 1 = some (nI 116, nI (a + 1), 0)) : pOp L (f_Rk_doOne (nI h) hc cf (nI B) (nI a) (nI L) 0 bb mw kn fv sk) (f_Md_operation (nI (a + 1)) (nI L) 0 (nI h) kn mb ms mw rg (nI 116) (nI B) hc cf) := by
  obtain ⟨w, a', b', g1, _, g2, g3⟩ := p_Mleb mb haL hL 1 0
  have hO : f_Rk_operandOf (nI (a + 1)) (nI L) 0 bb (nI 116) = some (w, nI a', b') := by
    rw [show f_Rk_operandOf (nI (a + 1)) (nI L) 0 bb (nI 116) = ((f_Rd_sleb (nI (a + 1)) (nI L) 0 bb).bind fun q => some (q.1, q.2.1, q.2.2)) from rfl, p_sleb hB haL hL, g1, Option.bind_some]
  have hM : f_Md_operation (nI (a + 1)) (nI L) 0 (nI h) kn mb ms mw rg (nI 116) (nI B) hc cf = if (nI 116 - 112) < 0 ∨ 8 ≤ (nI 116 - 112).toNatClampNeg then none else ((f_Md_pushed b' (nI h) ms ((rg (nI 116 - 112).toNatClampNeg) + w)).bind fun q144 => if q144.1 = 0 then (if ((kn >>> ((nI 116 - 112) &&& 31)) &&& 1) = 1 then (some (0, nI a', b', q144.2.1, q144.2.2)) else (some (4, nI a', b', q144.2.1, q144.2.2))) else (some (q144.1, nI a', b', q144.2.1, q144.2.2))) := by
    rw [show f_Md_operation (nI (a + 1)) (nI L) 0 (nI h) kn mb ms mw rg (nI 116) (nI B) hc cf = ((f_Md_leb (nI (a + 1)) (nI L) 0 mb 1).bind fun q122 => if (nI 116 - 112) < 0 ∨ 8 ≤ (nI 116 - 112).toNatClampNeg then none else ((f_Md_pushed q122.2.2 (nI h) ms ((rg (nI 116 - 112).toNatClampNeg) + q122.1)).bind fun q144 => if q144.1 = 0 then (if ((kn >>> ((nI 116 - 112) &&& 31)) &&& 1) = 1 then (some (0, q122.2.1, q122.2.2, q144.2.1, q144.2.2)) else (some (4, q122.2.1, q122.2.2, q144.2.1, q144.2.2))) else (some (q144.1, q122.2.1, q122.2.2, q144.2.1, q144.2.2)))) from rfl, g1, Option.bind_some]
  exact p_oReg (r := 4) hh hst g2 g3 (by omega) (by decide) (hkn 4 (by omega)) hb rfl hO rfl rfl hM
theorem p_o117 {h B a L : Nat} {hc cf kn : Int32} {bb mb mw fv rg sk ms : Nat → Int32} (hB : pB mb bb) (haL : a + 1 ≤ L) (hL : L ≤ 512) (hBL : B ≤ L) (hh : h ≤ 16) (hst : pSt h sk ms) (hkn : ∀ r, r < 8 → pKn kn r → fv r = rg r) (hb : f_Rd_unsigned (nI a) (nI L) 0 bb 1 = some (nI 117, nI (a + 1), 0)) : pOp L (f_Rk_doOne (nI h) hc cf (nI B) (nI a) (nI L) 0 bb mw kn fv sk) (f_Md_operation (nI (a + 1)) (nI L) 0 (nI h) kn mb ms mw rg (nI 117) (nI B) hc cf) := by
  obtain ⟨w, a', b', g1, _, g2, g3⟩ := p_Mleb mb haL hL 1 0
  have hO : f_Rk_operandOf (nI (a + 1)) (nI L) 0 bb (nI 117) = some (w, nI a', b') := by
    rw [show f_Rk_operandOf (nI (a + 1)) (nI L) 0 bb (nI 117) = ((f_Rd_sleb (nI (a + 1)) (nI L) 0 bb).bind fun q => some (q.1, q.2.1, q.2.2)) from rfl, p_sleb hB haL hL, g1, Option.bind_some]
  have hM : f_Md_operation (nI (a + 1)) (nI L) 0 (nI h) kn mb ms mw rg (nI 117) (nI B) hc cf = if (nI 117 - 112) < 0 ∨ 8 ≤ (nI 117 - 112).toNatClampNeg then none else ((f_Md_pushed b' (nI h) ms ((rg (nI 117 - 112).toNatClampNeg) + w)).bind fun q144 => if q144.1 = 0 then (if ((kn >>> ((nI 117 - 112) &&& 31)) &&& 1) = 1 then (some (0, nI a', b', q144.2.1, q144.2.2)) else (some (4, nI a', b', q144.2.1, q144.2.2))) else (some (q144.1, nI a', b', q144.2.1, q144.2.2))) := by
    rw [show f_Md_operation (nI (a + 1)) (nI L) 0 (nI h) kn mb ms mw rg (nI 117) (nI B) hc cf = ((f_Md_leb (nI (a + 1)) (nI L) 0 mb 1).bind fun q122 => if (nI 117 - 112) < 0 ∨ 8 ≤ (nI 117 - 112).toNatClampNeg then none else ((f_Md_pushed q122.2.2 (nI h) ms ((rg (nI 117 - 112).toNatClampNeg) + q122.1)).bind fun q144 => if q144.1 = 0 then (if ((kn >>> ((nI 117 - 112) &&& 31)) &&& 1) = 1 then (some (0, q122.2.1, q122.2.2, q144.2.1, q144.2.2)) else (some (4, q122.2.1, q122.2.2, q144.2.1, q144.2.2))) else (some (q144.1, q122.2.1, q122.2.2, q144.2.1, q144.2.2)))) from rfl, g1, Option.bind_some]
  exact p_oReg (r := 5) hh hst g2 g3 (by omega) (by decide) (hkn 5 (by omega)) hb rfl hO rfl rfl hM
theorem p_o118 {h B a L : Nat} {hc cf kn : Int32} {bb mb mw fv rg sk ms : Nat → Int32} (hB : pB mb bb) (haL : a + 1 ≤ L) (hL : L ≤ 512) (hBL : B ≤ L) (hh : h ≤ 16) (hst : pSt h sk ms) (hkn : ∀ r, r < 8 → pKn kn r → fv r = rg r) (hb : f_Rd_unsigned (nI a) (nI L) 0 bb 1 = some (nI 118, nI (a + 1), 0)) : pOp L (f_Rk_doOne (nI h) hc cf (nI B) (nI a) (nI L) 0 bb mw kn fv sk) (f_Md_operation (nI (a + 1)) (nI L) 0 (nI h) kn mb ms mw rg (nI 118) (nI B) hc cf) := by
  obtain ⟨w, a', b', g1, _, g2, g3⟩ := p_Mleb mb haL hL 1 0
  have hO : f_Rk_operandOf (nI (a + 1)) (nI L) 0 bb (nI 118) = some (w, nI a', b') := by
    rw [show f_Rk_operandOf (nI (a + 1)) (nI L) 0 bb (nI 118) = ((f_Rd_sleb (nI (a + 1)) (nI L) 0 bb).bind fun q => some (q.1, q.2.1, q.2.2)) from rfl, p_sleb hB haL hL, g1, Option.bind_some]
  have hM : f_Md_operation (nI (a + 1)) (nI L) 0 (nI h) kn mb ms mw rg (nI 118) (nI B) hc cf = if (nI 118 - 112) < 0 ∨ 8 ≤ (nI 118 - 112).toNatClampNeg then none else ((f_Md_pushed b' (nI h) ms ((rg (nI 118 - 112).toNatClampNeg) + w)).bind fun q144 => if q144.1 = 0 then (if ((kn >>> ((nI 118 - 112) &&& 31)) &&& 1) = 1 then (some (0, nI a', b', q144.2.1, q144.2.2)) else (some (4, nI a', b', q144.2.1, q144.2.2))) else (some (q144.1, nI a', b', q144.2.1, q144.2.2))) := by
    rw [show f_Md_operation (nI (a + 1)) (nI L) 0 (nI h) kn mb ms mw rg (nI 118) (nI B) hc cf = ((f_Md_leb (nI (a + 1)) (nI L) 0 mb 1).bind fun q122 => if (nI 118 - 112) < 0 ∨ 8 ≤ (nI 118 - 112).toNatClampNeg then none else ((f_Md_pushed q122.2.2 (nI h) ms ((rg (nI 118 - 112).toNatClampNeg) + q122.1)).bind fun q144 => if q144.1 = 0 then (if ((kn >>> ((nI 118 - 112) &&& 31)) &&& 1) = 1 then (some (0, q122.2.1, q122.2.2, q144.2.1, q144.2.2)) else (some (4, q122.2.1, q122.2.2, q144.2.1, q144.2.2))) else (some (q144.1, q122.2.1, q122.2.2, q144.2.1, q144.2.2)))) from rfl, g1, Option.bind_some]
  exact p_oReg (r := 6) hh hst g2 g3 (by omega) (by decide) (hkn 6 (by omega)) hb rfl hO rfl rfl hM
theorem p_o119 {h B a L : Nat} {hc cf kn : Int32} {bb mb mw fv rg sk ms : Nat → Int32} (hB : pB mb bb) (haL : a + 1 ≤ L) (hL : L ≤ 512) (hBL : B ≤ L) (hh : h ≤ 16) (hst : pSt h sk ms) (hkn : ∀ r, r < 8 → pKn kn r → fv r = rg r) (hb : f_Rd_unsigned (nI a) (nI L) 0 bb 1 = some (nI 119, nI (a + 1), 0)) : pOp L (f_Rk_doOne (nI h) hc cf (nI B) (nI a) (nI L) 0 bb mw kn fv sk) (f_Md_operation (nI (a + 1)) (nI L) 0 (nI h) kn mb ms mw rg (nI 119) (nI B) hc cf) := by
  obtain ⟨w, a', b', g1, _, g2, g3⟩ := p_Mleb mb haL hL 1 0
  have hO : f_Rk_operandOf (nI (a + 1)) (nI L) 0 bb (nI 119) = some (w, nI a', b') := by
    rw [show f_Rk_operandOf (nI (a + 1)) (nI L) 0 bb (nI 119) = ((f_Rd_sleb (nI (a + 1)) (nI L) 0 bb).bind fun q => some (q.1, q.2.1, q.2.2)) from rfl, p_sleb hB haL hL, g1, Option.bind_some]
  have hM : f_Md_operation (nI (a + 1)) (nI L) 0 (nI h) kn mb ms mw rg (nI 119) (nI B) hc cf = if (nI 119 - 112) < 0 ∨ 8 ≤ (nI 119 - 112).toNatClampNeg then none else ((f_Md_pushed b' (nI h) ms ((rg (nI 119 - 112).toNatClampNeg) + w)).bind fun q144 => if q144.1 = 0 then (if ((kn >>> ((nI 119 - 112) &&& 31)) &&& 1) = 1 then (some (0, nI a', b', q144.2.1, q144.2.2)) else (some (4, nI a', b', q144.2.1, q144.2.2))) else (some (q144.1, nI a', b', q144.2.1, q144.2.2))) := by
    rw [show f_Md_operation (nI (a + 1)) (nI L) 0 (nI h) kn mb ms mw rg (nI 119) (nI B) hc cf = ((f_Md_leb (nI (a + 1)) (nI L) 0 mb 1).bind fun q122 => if (nI 119 - 112) < 0 ∨ 8 ≤ (nI 119 - 112).toNatClampNeg then none else ((f_Md_pushed q122.2.2 (nI h) ms ((rg (nI 119 - 112).toNatClampNeg) + q122.1)).bind fun q144 => if q144.1 = 0 then (if ((kn >>> ((nI 119 - 112) &&& 31)) &&& 1) = 1 then (some (0, q122.2.1, q122.2.2, q144.2.1, q144.2.2)) else (some (4, q122.2.1, q122.2.2, q144.2.1, q144.2.2))) else (some (q144.1, q122.2.1, q122.2.2, q144.2.1, q144.2.2)))) from rfl, g1, Option.bind_some]
  exact p_oReg (r := 7) hh hst g2 g3 (by omega) (by decide) (hkn 7 (by omega)) hb rfl hO rfl rfl hM
theorem p_bb {α β γ : Type} (x : Option α) (f : α → Option β) (g : β → Option γ) : (x.bind f).bind g = x.bind fun y => (f y).bind g := Option.bind_assoc x f g
theorem p_mPB (h : Nat) (hh : h ≤ 16) (ms : Nat → Int32) (v A : Int32) : (((f_Md_push (nI h) ms v).bind fun q303 => if q303.1 = 0 then (some ((3 : Int32), A, (0 : Int32), q303.2.1, q303.2.2)) else (some (0, A, 0, q303.2.1, q303.2.2))).bind fun q => some (q.1, q.2.1, q.2.2.1, q.2.2.2.1, q.2.2.2.2)) = ((f_Md_push (nI h) ms v).bind fun q303 => if q303.1 = 0 then (some ((3 : Int32), A, (0 : Int32), q303.2.1, q303.2.2)) else (some (0, A, 0, q303.2.1, q303.2.2))) := by
  rcases Nat.lt_or_ge h 16 with q | q
  · rw [p_mPush q, Option.bind_some, if_neg (show ¬ (1 : Int32) = 0 by decide), Option.bind_some]
  · obtain rfl : h = 16 := by omega
    rw [p_mPushF, Option.bind_some, if_pos rfl, Option.bind_some]
theorem p_cpyM {h z : Nat} (hh : h ≤ 16) (hz : z < 256) (A : Int32) (ms : Nat → Int32) (X : Option (Int32 × Int32 × Int32 × Int32 × (Nat → Int32))) (hX : z < h → X = ((f_Md_push (nI h) ms (ms (nI h - nI 1 - nI z).toNatClampNeg)).bind fun q303 => if q303.1 = 0 then (some ((3 : Int32), A, (0 : Int32), q303.2.1, q303.2.2)) else (some (0, A, 0, q303.2.1, q303.2.2)))) : (((f_Md_lacks (nI h) (nI (z + 1))).bind fun q124 => if q124 = 0 then X else (some (3, A, 0, nI h, ms))).bind fun q => some (q.1, q.2.1, q.2.2.1, q.2.2.2.1, q.2.2.2.2)) = (f_Md_lacks (nI h) (nI (z + 1))).bind fun q124 => if q124 = 0 then (if (nI h - nI 1 - nI z) < 0 ∨ 16 ≤ (nI h - nI 1 - nI z).toNatClampNeg then none else ((f_Md_push (nI h) ms (ms (nI h - nI 1 - nI z).toNatClampNeg)).bind fun q303 => if q303.1 = 0 then (some (3, A, 0, q303.2.1, q303.2.2)) else (some (0, A, 0, q303.2.1, q303.2.2)))) else (some (3, A, 0, nI h, ms)) := by
  rw [p_lacks hh (by omega), Option.bind_some, Option.bind_some]
  by_cases q : z + 1 ≤ h
  · rw [if_pos q, if_pos rfl, if_pos rfl, hX (by omega), p_mPB h hh]
    have e1 : nI h - nI 1 - nI z = nI (h - 1 - z) := by rw [pk_sub (by omega), pk_sub (by omega)]
    rw [e1, if_neg (nI_in (show h - 1 - z < 16 by omega) (by omega))]
  · rw [if_neg q, if_neg (by decide), if_neg (by decide), Option.bind_some]

theorem p_o18 {h B a L : Nat} {hc cf kn : Int32} {bb mb mw fv rg sk ms : Nat → Int32} (hB : pB mb bb) (haL : a + 1 ≤ L) (hL : L ≤ 512) (hBL : B ≤ L) (hh : h ≤ 16) (hst : pSt h sk ms) (hkn : ∀ r, r < 8 → pKn kn r → fv r = rg r) (hb : f_Rd_unsigned (nI a) (nI L) 0 bb 1 = some (nI 18, nI (a + 1), 0)) : pOp L (f_Rk_doOne (nI h) hc cf (nI B) (nI a) (nI L) 0 bb mw kn fv sk) (f_Md_operation (nI (a + 1)) (nI L) 0 (nI h) kn mb ms mw rg (nI 18) (nI B) hc cf) := by
  refine p_oCopy (z := 0) (br := 0) hh hst haL (Or.inl rfl) (by omega) hb rfl rfl rfl (fun _ => ?_) (fun z => absurd z (by decide))
  rw [show f_Md_operation (nI (a + 1)) (nI L) 0 (nI h) kn mb ms mw rg (nI 18) (nI B) hc cf = (((f_Md_lacks (nI h) (nI (0 + 1))).bind fun q124 => if q124 = 0 then (if (nI h - 1) < 0 ∨ 16 ≤ (nI h - 1).toNatClampNeg then none else ((f_Md_push (nI h) ms (ms (nI h - 1).toNatClampNeg)).bind fun q303 => if q303.1 = 0 then (some (3, nI (a + 1), 0, q303.2.1, q303.2.2)) else (some (0, nI (a + 1), 0, q303.2.1, q303.2.2)))) else (some (3, nI (a + 1), 0, nI h, ms))).bind fun q => some (q.1, q.2.1, q.2.2.1, q.2.2.2.1, q.2.2.2.2)) from rfl]
  exact p_cpyM hh (by omega) _ ms _ (fun q => by
    have e1 : nI h - nI 1 - nI 0 = nI (h - 1) := by rw [pk_sub (by omega), pk_sub (by omega)]; rfl
    rw [e1, show nI h - 1 = nI (h - 1) from pk_sub (b := 1) (by omega), if_neg (nI_in (show h - 1 < 16 by omega) (by omega))])
theorem p_o20 {h B a L : Nat} {hc cf kn : Int32} {bb mb mw fv rg sk ms : Nat → Int32} (hB : pB mb bb) (haL : a + 1 ≤ L) (hL : L ≤ 512) (hBL : B ≤ L) (hh : h ≤ 16) (hst : pSt h sk ms) (hkn : ∀ r, r < 8 → pKn kn r → fv r = rg r) (hb : f_Rd_unsigned (nI a) (nI L) 0 bb 1 = some (nI 20, nI (a + 1), 0)) : pOp L (f_Rk_doOne (nI h) hc cf (nI B) (nI a) (nI L) 0 bb mw kn fv sk) (f_Md_operation (nI (a + 1)) (nI L) 0 (nI h) kn mb ms mw rg (nI 20) (nI B) hc cf) := by
  refine p_oCopy (z := 1) (br := 0) hh hst haL (Or.inl rfl) (by omega) hb rfl rfl rfl (fun _ => ?_) (fun z => absurd z (by decide))
  rw [show f_Md_operation (nI (a + 1)) (nI L) 0 (nI h) kn mb ms mw rg (nI 20) (nI B) hc cf = (((f_Md_lacks (nI h) (nI (1 + 1))).bind fun q124 => if q124 = 0 then (if (nI h - 1) < 0 ∨ 16 ≤ (nI h - 1).toNatClampNeg then none else (if (nI h - 2) < 0 ∨ 16 ≤ (nI h - 2).toNatClampNeg then none else ((f_Md_push (nI h) ms (ms (nI h - 2).toNatClampNeg)).bind fun q303 => if q303.1 = 0 then (some (3, nI (a + 1), 0, q303.2.1, q303.2.2)) else (some (0, nI (a + 1), 0, q303.2.1, q303.2.2))))) else (some (3, nI (a + 1), 0, nI h, ms))).bind fun q => some (q.1, q.2.1, q.2.2.1, q.2.2.2.1, q.2.2.2.2)) from rfl]
  exact p_cpyM hh (by omega) _ ms _ (fun q => by
    have e1 : nI h - nI 1 - nI 1 = nI (h - 2) := by rw [pk_sub (by omega), pk_sub (by omega)]; congr 1
    rw [e1, show nI h - 1 = nI (h - 1) from pk_sub (b := 1) (by omega), if_neg (nI_in (show h - 1 < 16 by omega) (by omega)), show nI h - 2 = nI (h - 2) from pk_sub (b := 2) (by omega), if_neg (nI_in (show h - 2 < 16 by omega) (by omega))])
theorem p_o21 {h B a L : Nat} {hc cf kn : Int32} {bb mb mw fv rg sk ms : Nat → Int32} (hB : pB mb bb) (haL : a + 1 ≤ L) (hL : L ≤ 512) (hBL : B ≤ L) (hh : h ≤ 16) (hst : pSt h sk ms) (hkn : ∀ r, r < 8 → pKn kn r → fv r = rg r) (hb : f_Rd_unsigned (nI a) (nI L) 0 bb 1 = some (nI 21, nI (a + 1), 0)) : pOp L (f_Rk_doOne (nI h) hc cf (nI B) (nI a) (nI L) 0 bb mw kn fv sk) (f_Md_operation (nI (a + 1)) (nI L) 0 (nI h) kn mb ms mw rg (nI 21) (nI B) hc cf) := by
  rcases Nat.lt_or_ge (a + 1) L with q | q
  · obtain ⟨z, hz, e⟩ := p_byteOf hB (show a + 1 < 512 by omega)
    have hO : f_Rk_operandOf (nI (a + 1)) (nI L) 0 bb (nI 21) = some (nI z, nI (a + 1 + 1), 0) := by
      rw [show f_Rk_operandOf (nI (a + 1)) (nI L) 0 bb (nI 21) = ((f_Rd_unsigned (nI (a + 1)) (nI L) 0 bb 1).bind fun q => some (q.1, q.2.1, q.2.2)) from rfl, p_Rbyte1 hB q hL, e, Option.bind_some]
    refine p_oCopy (z := z) hh hst (show a + 1 + 1 ≤ L by omega) (Or.inl rfl) hz hb rfl hO rfl (fun _ => ?_) (fun z => absurd z (by decide))
    rw [show f_Md_operation (nI (a + 1)) (nI L) 0 (nI h) kn mb ms mw rg (nI 21) (nI B) hc cf = ((f_Md_unsigned (nI (a + 1)) (nI L) 0 mb 1).bind fun q8 => f_Md_rearrange_29 q8.2.1 (nI L) q8.2.2 (nI h) mb ms mw (nI 21) q8.1).bind (fun q => some (q.1, q.2.1, q.2.2.1, q.2.2.2.1, q.2.2.2.2)) from rfl, p_byte1 mb 0 q hL, e, Option.bind_some]
    rw [show f_Md_rearrange_29 (nI (a + 1 + 1)) (nI L) 0 (nI h) mb ms mw (nI 21) (nI z) = (f_Md_lacks (nI h) (nI z + 1)).bind (fun q124 => if q124 = 0 then (if (nI h - 1) < 0 ∨ 16 ≤ (nI h - 1).toNatClampNeg then none else (if (nI h - 1 - nI z) < 0 ∨ 16 ≤ (nI h - 1 - nI z).toNatClampNeg then none else ((f_Md_push (nI h) ms (ms (nI h - 1 - nI z).toNatClampNeg)).bind fun q303 => if q303.1 = 0 then (some (3, nI (a + 1 + 1), 0, q303.2.1, q303.2.2)) else (some (0, nI (a + 1 + 1), 0, q303.2.1, q303.2.2))))) else (some (3, nI (a + 1 + 1), 0, nI h, ms))) from rfl, nI_1]
    exact p_cpyM hh hz _ ms _ (fun q => by
      have e1 : nI h - 1 - nI z = nI (h - 1 - z) := by rw [show nI h - 1 = nI (h - 1) from pk_sub (b := 1) (by omega), pk_sub (by omega)]
      rw [show nI h - nI 1 - nI z = nI (h - 1 - z) from e1, e1, show nI h - 1 = nI (h - 1) from pk_sub (b := 1) (by omega), if_neg (nI_in (show h - 1 < 16 by omega) (by omega)), if_neg (nI_in (show h - 1 - z < 16 by omega) (by omega))])
  · obtain rfl : L = a + 1 := by omega
    have hu : f_Md_unsigned (nI (a + 1)) (nI (a + 1)) 0 mb 1 = some (0, nI (a + 1), 1) := by
      rw [show (1 : Int32) = nI 1 from rfl, p_Muns mb 0 (Nat.le_refl _) hL (by omega), if_neg (by omega)]
      rfl
    have hO : f_Rk_operandOf (nI (a + 1)) (nI (a + 1)) 0 bb (nI 21) = some (nI 0, nI (a + 1), 1) := by
      rw [show f_Rk_operandOf (nI (a + 1)) (nI (a + 1)) 0 bb (nI 21) = ((f_Rd_unsigned (nI (a + 1)) (nI (a + 1)) 0 bb 1).bind fun q => some (q.1, q.2.1, q.2.2)) from rfl, show f_Rd_unsigned (nI (a + 1)) (nI (a + 1)) 0 bb 1 = _ from p_uns hB (c := 1) (Nat.le_refl _) hL (by omega), show f_Md_unsigned (nI (a + 1)) (nI (a + 1)) 0 mb (nI 1) = _ from hu, Option.bind_some]
      rfl
    refine p_oCopy (z := 0) hh hst (Nat.le_refl (a + 1)) (Or.inr rfl) (by omega) hb rfl hO rfl (fun z => absurd z (by decide)) (fun _ => ?_)
    rw [show f_Md_operation (nI (a + 1)) (nI (a + 1)) 0 (nI h) kn mb ms mw rg (nI 21) (nI B) hc cf = ((f_Md_unsigned (nI (a + 1)) (nI (a + 1)) 0 mb 1).bind fun q8 => f_Md_rearrange_29 q8.2.1 (nI (a + 1)) q8.2.2 (nI h) mb ms mw (nI 21) q8.1).bind (fun q => some (q.1, q.2.1, q.2.2.1, q.2.2.2.1, q.2.2.2.2)) from rfl, hu, Option.bind_some]
    exact ⟨_, rfl⟩
