/-! PURE: one operation of an expression, class against model -/
def pSt (h : Nat) (sk ms : Nat → Int32) : Prop := ∀ i, i < h → sk i = ms i
def pOp (L : Nat) (R M : Option (Int32 × Int32 × Int32 × Int32 × (Nat → Int32))) : Prop :=
  (∃ (f : Int32) (h : Nat) (q : Int32 × Int32 × (Nat → Int32)) (u : Int32 × Int32 × Int32 × (Nat → Int32)), f ≠ 0 ∧ h ≤ 16 ∧ R = some (f, nI h, q) ∧ M = some (f, u)) ∨
  (∃ (a h : Nat) (sk ms : Nat → Int32), a ≤ L ∧ h ≤ 16 ∧ pSt h sk ms ∧ R = some (0, nI h, nI a, 0, sk) ∧ M = some (0, nI a, 0, nI h, ms))
theorem p_stU {h : Nat} {sk ms : Nat → Int32} (H : pSt h sk ms) (v : Int32) : pSt (h + 1) (upd sk h v) (upd ms h v) := by
  intro i hi
  by_cases e : i = h
  · subst e; rw [upd_s, upd_s]
  · rw [upd_n _ e, upd_n _ e]; exact H i (by omega)
theorem p_stW {h k : Nat} {sk ms : Nat → Int32} (H : pSt h sk ms) (v : Int32) : pSt h (upd sk k v) (upd ms k v) := by
  intro i hi
  by_cases e : i = k
  · subst e; rw [upd_s, upd_s]
  · rw [upd_n _ e, upd_n _ e]; exact H i hi
theorem p_stL {h k : Nat} {sk ms : Nat → Int32} (H : pSt h sk ms) (hk : k ≤ h) : pSt k sk ms := fun i hi => H i (by omega)
theorem p_rPush {h : Nat} (hh : h < 16) (sk : Nat → Int32) (v : Int32) : f_Rk_push (nI h) sk v = some (nI (h + 1), upd sk h v) := by
  unfold f_Rk_push
  rw [if_neg (show ¬ (16 : Int32) ≤ nI h from nI_ge (b := 16) hh (by omega)), if_neg (nI_in hh (by omega)), nI_clamp (show h < 2 ^ 31 by omega), nI_1]
theorem p_mPush {h : Nat} (hh : h < 16) (ms : Nat → Int32) (v : Int32) : f_Md_push (nI h) ms v = some (1, nI (h + 1), upd ms h v) := by
  unfold f_Md_push
  rw [if_neg (show ¬ nI h = (16 : Int32) from fun z => absurd ((nI_eq (b := 16) (by omega) (by omega)).mp z) (by omega)), if_neg (nI_in hh (by omega)), nI_clamp (show h < 2 ^ 31 by omega), nI_1]
theorem p_mPushF (ms : Nat → Int32) (v : Int32) : f_Md_push (nI 16) ms v = some (0, nI 16, ms) := rfl
theorem p_mPushed {h : Nat} (hh : h < 16) (ms : Nat → Int32) (v : Int32) : f_Md_pushed 0 (nI h) ms v = some (0, nI (h + 1), upd ms h v) := by
  unfold f_Md_pushed
  rw [if_pos rfl, p_mPush hh, Option.bind_some]
  exact if_neg (show ¬ (1 : Int32) = 0 by decide)
theorem p_mPushedF (ms : Nat → Int32) (v : Int32) : f_Md_pushed 0 (nI 16) ms v = some (3, nI 16, ms) := rfl
theorem p_mPushedB (h : Int32) (ms : Nat → Int32) (v : Int32) : f_Md_pushed 1 h ms v = some (2, h, ms) := rfl
theorem p_lacks {h n : Nat} (hh : h ≤ 16) (hn : n < 2 ^ 30) : f_Md_lacks (nI h) (nI n) = some (if n ≤ h then 0 else 1) := by
  unfold f_Md_lacks
  by_cases z : n ≤ h
  · rw [if_pos (nI_le z (by omega)), if_pos z]
  · rw [if_neg (nI_ge (show h < n by omega) (by omega)), if_neg z]
/-- what doOne does, given the operation's family and operand -/
theorem p_doE {h B a a' L k : Nat} {hc cf kn fam d br : Int32} {bb mw fv sk : Nat → Int32} (hb : f_Rd_unsigned (nI a) (nI L) 0 bb 1 = some (nI k, nI (a + 1), 0)) (hF : f_Rk_familyOf hc (nI k) = some fam) (hO : f_Rk_operandOf (nI (a + 1)) (nI L) 0 bb (nI k) = some (d, nI a', br)) : f_Rk_doOne (nI h) hc cf (nI B) (nI a) (nI L) 0 bb mw kn fv sk = if fam = 0 then some (2, nI h, nI a', br, sk) else (if br = 0 then (if fam = 2 then (if nI h < 16 then f_Rk_doOne_56 (nI h) hc cf (nI B) (nI a') (nI L) br bb mw kn fv sk (nI k) fam d 0 else f_Rk_doOne_56 (nI h) hc cf (nI B) (nI a') (nI L) br bb mw kn fv sk (nI k) fam d 1) else f_Rk_doOne_56 (nI h) hc cf (nI B) (nI a') (nI L) br bb mw kn fv sk (nI k) fam d 0) else some (2, nI h, nI a', br, sk)) := by
  unfold f_Rk_doOne
  rw [hb, Option.bind_some]
  dsimp only
  rw [hF, Option.bind_some, hO, Option.bind_some]
theorem p_oMiss {h B a L k : Nat} {hc cf kn : Int32} {bb mb mw fv rg sk ms : Nat → Int32} (hh : h ≤ 16) (hb : f_Rd_unsigned (nI a) (nI L) 0 bb 1 = some (nI k, nI (a + 1), 0)) (hF : f_Rk_familyOf hc (nI k) = some 0) (hO : f_Rk_operandOf (nI (a + 1)) (nI L) 0 bb (nI k) = some (0, nI (a + 1), 0)) (hM : f_Md_operation (nI (a + 1)) (nI L) 0 (nI h) kn mb ms mw rg (nI k) (nI B) hc cf = some (2, nI (a + 1), 0, nI h, ms)) : pOp L (f_Rk_doOne (nI h) hc cf (nI B) (nI a) (nI L) 0 bb mw kn fv sk) (f_Md_operation (nI (a + 1)) (nI L) 0 (nI h) kn mb ms mw rg (nI k) (nI B) hc cf) := by
  rw [p_doE hb hF hO, if_pos rfl, hM]
  exact Or.inl ⟨2, _, _, _, by decide, by omega, rfl, rfl⟩
/-- a number is pushed -/
theorem p_oPush {h B a a' L k : Nat} {hc cf kn d br v : Int32} {bb mb mw fv rg sk ms : Nat → Int32} (hh : h ≤ 16) (hst : pSt h sk ms) (ha' : a' ≤ L) (hbr : br = 0 ∨ br = 1) (hb : f_Rd_unsigned (nI a) (nI L) 0 bb 1 = some (nI k, nI (a + 1), 0)) (hF : f_Rk_familyOf hc (nI k) = some 2) (hO : f_Rk_operandOf (nI (a + 1)) (nI L) 0 bb (nI k) = some (d, nI a', br)) (hN : f_Rk_neededBy (nI k) 2 d = some 0) (hP : f_Rk_pushFor (nI h) cf kn fv sk (nI k) d = (f_Rk_push (nI h) sk v).bind fun q => some (0, q.1, q.2)) (hM : f_Md_operation (nI (a + 1)) (nI L) 0 (nI h) kn mb ms mw rg (nI k) (nI B) hc cf = (f_Md_pushed br (nI h) ms v).bind fun u => some (u.1, nI a', br, u.2.1, u.2.2)) : pOp L (f_Rk_doOne (nI h) hc cf (nI B) (nI a) (nI L) 0 bb mw kn fv sk) (f_Md_operation (nI (a + 1)) (nI L) 0 (nI h) kn mb ms mw rg (nI k) (nI B) hc cf) := by
  rw [p_doE hb hF hO, if_neg (by decide), hM]
  rcases hbr with rfl | rfl
  · rw [if_pos rfl, if_pos rfl]
    rcases Nat.lt_or_ge h 16 with q | q
    · rw [if_pos (show nI h < (16 : Int32) from nI_lt (b := 16) q (by omega)), p_mPushed q, Option.bind_some]
      unfold f_Rk_doOne_56
      rw [if_pos rfl, hN, Option.bind_some, if_pos (nI_pos' (by omega)), if_pos rfl, hP, p_rPush q, Option.bind_some, Option.bind_some]
      exact Or.inr ⟨a', h + 1, _, _, ha', by omega, p_stU hst _, rfl, rfl⟩
    · obtain rfl : h = 16 := by omega
      rw [if_neg (by decide), p_mPushedF, Option.bind_some]
      unfold f_Rk_doOne_56
      rw [if_neg (by decide)]
      exact Or.inl ⟨3, _, _, _, by decide, by omega, rfl, rfl⟩
  · rw [if_neg (by decide), p_mPushedB, Option.bind_some]
    exact Or.inl ⟨2, _, _, _, by decide, by omega, rfl, rfl⟩
/-- a register and a number -/
theorem p_oReg {h B a a' L k r : Nat} {hc cf kn d br : Int32} {bb mb mw fv rg sk ms : Nat → Int32} (hh : h ≤ 16) (hst : pSt h sk ms) (ha' : a' ≤ L) (hbr : br = 0 ∨ br = 1) (hr : r < 8) (hk : nI k - 112 = nI r) (hkn : pKn kn r → fv r = rg r) (hb : f_Rd_unsigned (nI a) (nI L) 0 bb 1 = some (nI k, nI (a + 1), 0)) (hF : f_Rk_familyOf hc (nI k) = some 2) (hO : f_Rk_operandOf (nI (a + 1)) (nI L) 0 bb (nI k) = some (d, nI a', br)) (hN : f_Rk_neededBy (nI k) 2 d = some 0) (hP : f_Rk_pushFor (nI h) cf kn fv sk (nI k) d = (((f_Fr_knows kn (nI k - 112)).bind fun q85 => if q85 = 0 then (some (4, nI h, sk)) else (if (nI k - 112) < 0 ∨ 8 ≤ (nI k - 112).toNatClampNeg then none else ((f_Rk_push (nI h) sk ((fv (nI k - 112).toNatClampNeg) + d)).bind fun q106 => some (0, q106.1, q106.2)))))) (hM : f_Md_operation (nI (a + 1)) (nI L) 0 (nI h) kn mb ms mw rg (nI k) (nI B) hc cf = if (nI k - 112) < 0 ∨ 8 ≤ (nI k - 112).toNatClampNeg then none else ((f_Md_pushed br (nI h) ms ((rg (nI k - 112).toNatClampNeg) + d)).bind fun q144 => if q144.1 = 0 then (if ((kn >>> ((nI k - 112) &&& 31)) &&& 1) = 1 then (some (0, nI a', br, q144.2.1, q144.2.2)) else (some (4, nI a', br, q144.2.1, q144.2.2))) else (some (q144.1, nI a', br, q144.2.1, q144.2.2)))) : pOp L (f_Rk_doOne (nI h) hc cf (nI B) (nI a) (nI L) 0 bb mw kn fv sk) (f_Md_operation (nI (a + 1)) (nI L) 0 (nI h) kn mb ms mw rg (nI k) (nI B) hc cf) := by
  rw [hk] at hP hM
  rw [p_doE hb hF hO, if_neg (by decide), hM, if_neg (nI_in hr (by omega)), nI_clamp (show r < 2 ^ 31 by omega)]
  rw [if_neg (nI_in hr (by omega)), nI_clamp (show r < 2 ^ 31 by omega)] at hP
  rcases hbr with rfl | rfl
  · rw [if_pos rfl, if_pos rfl]
    rcases Nat.lt_or_ge h 16 with q | q
    · rw [if_pos (show nI h < (16 : Int32) from nI_lt (b := 16) q (by omega)), p_mPushed q, Option.bind_some]
      unfold f_Rk_doOne_56
      rw [if_pos rfl, hN, Option.bind_some, if_pos (nI_pos' (by omega)), if_pos rfl, hP, if_pos rfl]
      rcases p_knC (kn := kn) hr with ⟨z1, z2⟩ | ⟨z1, z2⟩
      · rw [z2, Option.bind_some, if_neg (by decide), p_rPush q, Option.bind_some, Option.bind_some, if_pos ((p_knM hr).mpr z1), hkn z1]
        exact Or.inr ⟨a', h + 1, _, _, ha', by omega, p_stU hst _, rfl, rfl⟩
      · rw [z2, Option.bind_some, if_pos rfl, Option.bind_some, if_neg (fun z => z1 ((p_knM hr).mp z))]
        exact Or.inl ⟨4, _, _, _, by decide, by omega, rfl, rfl⟩
    · obtain rfl : h = 16 := by omega
      rw [if_neg (by decide), p_mPushedF, Option.bind_some]
      unfold f_Rk_doOne_56
      rw [if_neg (by decide), if_neg (show ¬ (3 : Int32) = 0 by decide)]
      exact Or.inl ⟨3, _, _, _, by decide, by omega, rfl, rfl⟩
  · rw [if_neg (by decide), p_mPushedB, Option.bind_some, if_neg (show ¬ (2 : Int32) = 0 by decide)]
    exact Or.inl ⟨2, _, _, _, by decide, by omega, rfl, rfl⟩
/-- a number of the stack comes again -/
theorem p_oCopy {h B a a' L k z : Nat} {hc cf kn d br : Int32} {bb mb mw fv rg sk ms : Nat → Int32} (hh : h ≤ 16) (hst : pSt h sk ms) (ha' : a' ≤ L) (hbr : br = 0 ∨ br = 1) (hz : z < 256) (hb : f_Rd_unsigned (nI a) (nI L) 0 bb 1 = some (nI k, nI (a + 1), 0)) (hF : f_Rk_familyOf hc (nI k) = some 2) (hO : f_Rk_operandOf (nI (a + 1)) (nI L) 0 bb (nI k) = some (d, nI a', br)) (hD : f_Rk_depthOfCopy (nI k) d = some (nI z)) (hM : br = 0 → f_Md_operation (nI (a + 1)) (nI L) 0 (nI h) kn mb ms mw rg (nI k) (nI B) hc cf = (f_Md_lacks (nI h) (nI (z + 1))).bind fun q124 => if q124 = 0 then (if (nI h - nI 1 - nI z) < 0 ∨ 16 ≤ (nI h - nI 1 - nI z).toNatClampNeg then none else ((f_Md_push (nI h) ms (ms (nI h - nI 1 - nI z).toNatClampNeg)).bind fun q303 => if q303.1 = 0 then (some (3, nI a', 0, q303.2.1, q303.2.2)) else (some (0, nI a', 0, q303.2.1, q303.2.2)))) else (some (3, nI a', 0, nI h, ms))) (hM1 : br = 1 → ∃ u, f_Md_operation (nI (a + 1)) (nI L) 0 (nI h) kn mb ms mw rg (nI k) (nI B) hc cf = some (2, u)) : pOp L (f_Rk_doOne (nI h) hc cf (nI B) (nI a) (nI L) 0 bb mw kn fv sk) (f_Md_operation (nI (a + 1)) (nI L) 0 (nI h) kn mb ms mw rg (nI k) (nI B) hc cf) := by
  rw [p_doE hb hF hO, if_neg (by decide)]
  rcases hbr with rfl | rfl
  · rw [if_pos rfl, if_pos rfl, hM rfl, p_lacks hh (by omega), Option.bind_some]
    have h56 : f_Rk_doOne_56 (nI h) hc cf (nI B) (nI a') (nI L) 0 bb mw kn fv sk (nI k) 2 d 0 = if nI (z + 1) ≤ nI h then ((f_Rk_pushFor (nI h) cf kn fv sk (nI k) d).bind fun q115 => some (q115.1, q115.2.1, nI a', 0, q115.2.2)) else some (3, nI h, nI a', 0, sk) := by
      unfold f_Rk_doOne_56 f_Rk_neededBy
      rw [if_pos rfl, if_pos rfl, hD, Option.bind_some, Option.bind_some, nI_1, if_pos rfl]
    have h57 : f_Rk_doOne_56 (nI h) hc cf (nI B) (nI a') (nI L) 0 bb mw kn fv sk (nI k) 2 d 1 = some (3, nI h, nI a', 0, sk) := by
      unfold f_Rk_doOne_56
      rw [if_neg (by decide)]
    rw [h56, h57]
    rcases Nat.lt_or_ge z h with q | q
    · obtain ⟨g, rfl⟩ : ∃ g, h = g + z + 1 := ⟨h - z - 1, by omega⟩
      have e1 : nI (g + z + 1) - nI 1 - nI z = nI g := by rw [pk_sub (by omega), pk_sub (by omega)]; congr 1; omega
      rw [if_pos (show z + 1 ≤ g + z + 1 by omega), if_pos rfl, e1, if_neg (nI_in (show g < 16 by omega) (by omega)), nI_clamp (show g < 2 ^ 31 by omega), if_pos (nI_le (show z + 1 ≤ g + z + 1 by omega) (by omega))]
      rcases Nat.lt_or_ge (g + z + 1) 16 with q2 | q2
      · rw [if_pos (show nI (g + z + 1) < (16 : Int32) from nI_lt (b := 16) q2 (by omega))]
        unfold f_Rk_pushFor
        rw [hD, Option.bind_some, if_neg (nI_pos (by omega)), show nI (g + z + 1) - 1 - nI z = nI g from e1, if_neg (nI_in (show g < 16 by omega) (by omega)), nI_clamp (show g < 2 ^ 31 by omega), p_rPush q2, p_mPush q2, Option.bind_some, Option.bind_some, Option.bind_some]
        rw [if_neg (show ¬ (1 : Int32) = 0 by decide), hst g (by omega)]
        exact Or.inr ⟨a', g + z + 1 + 1, _, _, ha', by omega, p_stU hst _, rfl, rfl⟩
      · rw [if_neg (show ¬ nI (g + z + 1) < (16 : Int32) from nI_nlt (b := 16) q2 (by omega))]
        rw [show g + z + 1 = 16 by omega, p_mPushF, Option.bind_some, if_pos rfl]
        exact Or.inl ⟨3, _, _, _, by decide, by omega, rfl, rfl⟩
    · rw [if_neg (show ¬ z + 1 ≤ h by omega), if_neg (show ¬ (1 : Int32) = 0 by decide), if_neg (nI_ge (show h < z + 1 by omega) (by omega))]
      rw [show (if nI h < 16 then some ((3 : Int32), nI h, nI a', (0 : Int32), sk) else some (3, nI h, nI a', 0, sk)) = some (3, nI h, nI a', 0, sk) by split <;> rfl]
      exact Or.inl ⟨3, _, _, _, by decide, by omega, rfl, rfl⟩
  · obtain ⟨u, hu⟩ := hM1 rfl
    rw [if_neg (by decide), hu]
    exact Or.inl ⟨2, _, _, _, by decide, by omega, rfl, rfl⟩
