/-! PURE: an expression, class against model -/
def pEv (B : Nat) (R : Option (Int32 × Int32 × Int32 × Int32 × Int32 × Int32 × (Nat → Int32))) (M : Option (Int32 × Int32 × Int32 × Int32 × Int32 × Int32 × (Nat → Int32))) : Prop :=
  (∃ (f : Int32) (h : Nat) (q : Int32 × Int32 × Int32 × Int32 × (Nat → Int32)) (u : Int32 × Int32 × Int32 × Int32 × Int32 × (Nat → Int32)), f ≠ 0 ∧ h ≤ 16 ∧ R = some (f, nI h, q) ∧ M = some (f, u)) ∨
  (∃ (g : Nat) (sk ms : Nat → Int32) (t1 t2 t3 u1 u2 u3 : Int32), g < 16 ∧ pSt (g + 1) sk ms ∧ R = some (0, nI (g + 1), nI B, t1, t2, t3, sk) ∧ M = some (0, u1, u2, u3, nI (g + 1), ms g, ms))
theorem p_runL {mb bb : Nat → Int32} (hB : pB mb bb) {B L : Nat} (hL : L ≤ 512) (hBL : B ≤ L) {hc cf kn : Int32} {mw fv rg : Nat → Int32} (hkn : ∀ r, r < 8 → pKn kn r → fv r = rg r) (x1 x2 x3 y2 y3 rk : Int32) : ∀ (F n m a h : Nat) (sk ms : Nat → Int32), F < 2 ^ 30 → F < n → F < m → a ≤ L → h ≤ 16 → pSt h sk ms → pEv B (f_Rk_run_17 n (nI h) hc cf (nI B) (nI a) (nI L) 0 bb mw kn fv sk x1 x2 x3 (nI F)) (f_Md_evaluate_18 m (nI a) (nI L) 0 (nI h) rk kn mb ms mw rg (nI B) y2 y3 hc cf (nI F)) := by
  have hend : ∀ (F n m a h : Nat) (sk ms : Nat → Int32), a = L → h ≤ 16 → pSt h sk ms → pEv B (f_Rk_run_17 (n + 1) (nI h) hc cf (nI B) (nI a) (nI L) 0 bb mw kn fv sk x1 x2 x3 (nI F)) (f_Md_evaluate_18 (m + 1) (nI a) (nI L) 0 (nI h) rk kn mb ms mw rg (nI B) y2 y3 hc cf (nI F)) := by
    intro F n m a h sk ms ha hh hst
    subst ha
    rw [f_Rk_run_17, f_Md_evaluate_18, if_pos (nI_le (Nat.le_refl a) (by omega)), if_pos (nI_le (Nat.le_refl a) (by omega))]
    match h, hh, hst with
    | 0, _, _ =>
      rw [if_pos (show nI 0 ≤ (0 : Int32) by decide), if_pos (show nI 0 = (0 : Int32) from rfl)]
      exact Or.inl ⟨3, _, _, _, by decide, by omega, rfl, rfl⟩
    | g + 1, hh, hst =>
      rw [if_neg (nI_nle (by omega) (by omega)), if_neg (nI_ne0 (by omega) (by omega)), p_g1, if_neg (nI_in (show g < 16 by omega) (by omega)), nI_clamp (show g < 2 ^ 31 by omega)]
      exact Or.inr ⟨g, sk, ms, _, _, _, _, _, _, by omega, hst, rfl, rfl⟩
  intro F
  induction F with
  | zero =>
    intro n m a h sk ms hF hn hm ha hh hst
    match n, m, hn, hm with
    | n + 1, m + 1, _, _ =>
      rcases Nat.lt_or_ge a L with q | q
      · rw [f_Rk_run_17, f_Md_evaluate_18, if_neg (nI_ge q (by omega)), if_neg (nI_ge q (by omega)), if_neg (show ¬ 0 < nI 0 by decide), if_pos (show nI 0 = (0 : Int32) from rfl)]
        exact Or.inl ⟨1, _, _, _, by decide, hh, rfl, rfl⟩
      · exact hend 0 n m a h sk ms (by omega) hh hst
  | succ F ih =>
    intro n m a h sk ms hF hn hm ha hh hst
    match n, m, hn, hm with
    | n + 1, m + 1, hn, hm =>
      rcases Nat.lt_or_ge a L with q | q
      · rw [f_Rk_run_17, f_Md_evaluate_18, if_neg (nI_ge q (by omega)), if_neg (nI_ge q (by omega)), if_pos (show (0 : Int32) < nI (F + 1) from nI_lt (a := 0) (by omega) (by omega)), if_neg (nI_ne0 (by omega) (by omega)), p_byte1 mb 0 q hL, Option.bind_some]
        dsimp only
        rcases p_op (h := h) (B := B) (hc := hc) (cf := cf) (mw := mw) hB (show a + 1 ≤ L by omega) hL hBL hh hst hkn with ⟨f, h', q', u, g0, g1, g2, g3⟩ | ⟨a', h', sk', ms', g1, g2, g3, g4, g5⟩
        · rw [g2, g3, Option.bind_some, Option.bind_some]
          dsimp only
          rw [if_neg g0, if_neg g0]
          exact Or.inl ⟨f, h', _, _, g0, g1, rfl, rfl⟩
        · rw [g4, g5, Option.bind_some, Option.bind_some]
          dsimp only
          rw [if_pos rfl, if_pos rfl, pk_m1]
          exact ih n m a' h' sk' ms' (by omega) (by omega) (by omega) g1 g2 g3
      · exact hend (F + 1) n m a h sk ms (by omega) hh hst
theorem p_run {mb bb : Nat → Int32} (hB : pB mb bb) {B L F h : Nat} (hL : L ≤ 512) (hBL : B ≤ L) {hc cf kn : Int32} {mw fv rg sk ms : Nat → Int32} (hkn : ∀ r, r < 8 → pKn kn r → fv r = rg r) (hF : F ≤ 2000) (hh : h ≤ 16) (hst : pSt h sk ms) (bg rA rL rB at0 lim0 bad0 rk : Int32) : pEv B (f_Rk_run (nI h) hc cf bg rA rL rB bb mw kn fv sk (nI B) (nI L) (nI F)) (f_Md_evaluate at0 lim0 bad0 (nI h) rk kn mb ms mw rg (nI B) (nI L) (nI F) hc cf) := by
  unfold f_Rk_run f_Md_evaluate f_Rd_open
  rw [Option.bind_some]
  exact p_runL hB hL hBL hkn _ _ _ _ _ _ F LF LF B h sk ms (by omega) (by unfold LF; omega) (by unfold LF; omega) hBL hh hst
