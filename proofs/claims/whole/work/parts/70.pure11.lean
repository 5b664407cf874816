/-! PURE: apply, whole -/
theorem p_apply {row crow kept rok ron ros cok con cos r0k r0n r0s r1k r1n r1s r2k r2n r2s r3k r3n r3s : Nat → Int32} (h : pRow row rok ron ros) (op num bf cod dat pl : Int32) (hc : op = 6 → pRow crow cok con cos) {k : Nat} (hk : k < 8) {d : Nat} (hd : d ≤ 4) (hK : pKp kept d (pR4 r0k r1k r2k r3k) (pR4 r0n r1n r2n r3n) (pR4 r0s r1s r2s r3s)) (h10 : op = 10 → d < 4) (h11 : op = 11 → 0 < d) : ∃ a b c x0k x0n x0s x1k x1n x1s x2k x2n x2s x3k x3n x3s, f_Tr_apply (nI d) pl op (nI k) num bf rok ron ros cok con cos r0k r0n r0s r1k r1n r1s r2k r2n r2s r3k r3n r3s cod dat = some (nI (pEff op k num bf cod dat d pl row crow kept).1, (pEff op k num bf cod dat d pl row crow kept).2.1, a, b, c, x0k, x0n, x0s, x1k, x1n, x1s, x2k, x2n, x2s, x3k, x3n, x3s) ∧ pRow (pEff op k num bf cod dat d pl row crow kept).2.2.1 a b c ∧ pKp (pEff op k num bf cod dat d pl row crow kept).2.2.2 (pEff op k num bf cod dat d pl row crow kept).1 (pR4 x0k x1k x2k x3k) (pR4 x0n x1n x2n x3n) (pR4 x0s x1s x2s x3s) := by
  unfold f_Tr_apply pEff
  by_cases z0 : op = 0
  · rw [if_pos z0, if_pos z0]; exact ⟨_, _, _, _, _, _, _, _, _, _, _, _, _, _, _, rfl, h, hK⟩
  rw [if_neg z0, if_neg z0]
  by_cases z1 : op = 1
  · rw [if_pos z1, if_pos z1]; exact ⟨_, _, _, _, _, _, _, _, _, _, _, _, _, _, _, rfl, h, hK⟩
  rw [if_neg z1, if_neg z1]
  by_cases z2 : op = 2 ∨ op = 3 ∨ op = 4
  · rw [if_pos z2, if_pos z2]; exact ⟨_, _, _, _, _, _, _, _, _, _, _, _, _, _, _, rfl, h, hK⟩
  rw [if_neg z2, if_neg z2]
  by_cases z10 : op = 10
  · rw [if_pos z10, if_pos z10]
    have hd4 := h10 z10
    unfold f_Tr_remember f_Ro_copyFrom
    rw [if_neg (show ¬ (4 : Int32) ≤ nI d from nI_ge (b := 4) hd4 (by omega))]
    match d, hd4, hK with
    | 0, _, hK =>
      rw [if_pos (by decide), Option.bind_some, Option.bind_some]
      refine ⟨_, _, _, _, _, _, _, _, _, _, _, _, _, _, _, rfl, h, fun j hj => ?_⟩
      match j, hj with
      | 0, _ => exact p_keepNew (p_rowCpy h)
      | j + 1, hj => exact absurd hj (by dsimp only; omega)
    | 1, _, hK =>
      rw [if_neg (by decide), if_pos (by decide), Option.bind_some, Option.bind_some]
      refine ⟨_, _, _, _, _, _, _, _, _, _, _, _, _, _, _, rfl, h, fun j hj => ?_⟩
      match j, hj with
      | 0, _ => exact p_keepOld (by omega) (hK 0 (by omega))
      | 1, _ => exact p_keepNew (p_rowCpy h)
      | j + 2, hj => exact absurd hj (by dsimp only; omega)
    | 2, _, hK =>
      rw [if_neg (by decide), if_neg (by decide), if_pos (by decide), Option.bind_some, Option.bind_some]
      refine ⟨_, _, _, _, _, _, _, _, _, _, _, _, _, _, _, rfl, h, fun j hj => ?_⟩
      match j, hj with
      | 0, _ => exact p_keepOld (by omega) (hK 0 (by omega))
      | 1, _ => exact p_keepOld (by omega) (hK 1 (by omega))
      | 2, _ => exact p_keepNew (p_rowCpy h)
      | j + 3, hj => exact absurd hj (by dsimp only; omega)
    | 3, _, hK =>
      rw [if_neg (by decide), if_neg (by decide), if_neg (by decide), if_pos (by decide), Option.bind_some, Option.bind_some]
      refine ⟨_, _, _, _, _, _, _, _, _, _, _, _, _, _, _, rfl, h, fun j hj => ?_⟩
      match j, hj with
      | 0, _ => exact p_keepOld (by omega) (hK 0 (by omega))
      | 1, _ => exact p_keepOld (by omega) (hK 1 (by omega))
      | 2, _ => exact p_keepOld (by omega) (hK 2 (by omega))
      | 3, _ => exact p_keepNew (p_rowCpy h)
      | j + 4, hj => exact absurd hj (by dsimp only; omega)
    | d + 4, hd4, _ => exact absurd hd4 (by omega)
  rw [if_neg z10, if_neg z10]
  by_cases z11 : op = 11
  · rw [if_pos z11, if_pos z11]
    have hd0 := h11 z11
    unfold f_Tr_takeBack f_Ro_copyFrom
    match d, hd, hd0, hK with
    | 1, _, _, hK =>
      rw [show (nI 1 - 1 : Int32) = nI 0 by decide, if_neg (by decide), if_pos (by decide), Option.bind_some, Option.bind_some]
      exact ⟨va_cpy r0k rok 0 0 9, va_cpy r0n ron 0 0 9, va_cpy r0s ros 0 0 9, _, _, _, _, _, _, _, _, _, _, _, _, rfl, p_backRow (p_rowCpy (hK 0 (by omega))), fun j hj => hK j (Nat.lt_of_lt_of_le hj (Nat.sub_le _ _))⟩
    | 2, _, _, hK =>
      rw [show (nI 2 - 1 : Int32) = nI 1 by decide, if_neg (by decide), if_neg (by decide), if_pos (by decide), Option.bind_some, Option.bind_some]
      exact ⟨va_cpy r1k rok 0 0 9, va_cpy r1n ron 0 0 9, va_cpy r1s ros 0 0 9, _, _, _, _, _, _, _, _, _, _, _, _, rfl, p_backRow (p_rowCpy (hK 1 (by omega))), fun j hj => hK j (Nat.lt_of_lt_of_le hj (Nat.sub_le _ _))⟩
    | 3, _, _, hK =>
      rw [show (nI 3 - 1 : Int32) = nI 2 by decide, if_neg (by decide), if_neg (by decide), if_neg (by decide), if_pos (by decide), Option.bind_some, Option.bind_some]
      exact ⟨va_cpy r2k rok 0 0 9, va_cpy r2n ron 0 0 9, va_cpy r2s ros 0 0 9, _, _, _, _, _, _, _, _, _, _, _, _, rfl, p_backRow (p_rowCpy (hK 2 (by omega))), fun j hj => hK j (Nat.lt_of_lt_of_le hj (Nat.sub_le _ _))⟩
    | 4, _, _, hK =>
      rw [show (nI 4 - 1 : Int32) = nI 3 by decide, if_neg (by decide), if_neg (by decide), if_neg (by decide), if_neg (by decide), if_pos (by decide), Option.bind_some, Option.bind_some]
      exact ⟨va_cpy r3k rok 0 0 9, va_cpy r3n ron 0 0 9, va_cpy r3s ros 0 0 9, _, _, _, _, _, _, _, _, _, _, _, _, rfl, p_backRow (p_rowCpy (hK 3 (by omega))), fun j hj => hK j (Nat.lt_of_lt_of_le hj (Nat.sub_le _ _))⟩
    | d + 5, hd, _, _ => exact absurd hd (by omega)
  rw [if_neg z11, if_neg z11]
  by_cases zc : op = 12 ∨ op = 13 ∨ op = 14 ∨ op = 15 ∨ op = 18 ∨ op = 19
  · rw [if_pos zc, if_pos zc]
    obtain ⟨a, b, c, e1, e2⟩ := p_toCfa h hk op num bf dat
    rw [e1, Option.bind_some]
    exact ⟨a, b, c, _, _, _, _, _, _, _, _, _, _, _, _, rfl, e2, hK⟩
  rw [if_neg zc, if_neg zc]
  obtain ⟨a, b, c, e1, e2⟩ := p_toReg h op num bf dat hc hk
  rw [e1, Option.bind_some]
  exact ⟨a, b, c, _, _, _, _, _, _, _, _, _, _, _, _, rfl, e2, hK⟩
