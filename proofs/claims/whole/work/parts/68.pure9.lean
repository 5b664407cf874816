/-! PURE: the tracer's apply against the effect -/
def pRow (row tk tn ts : Nat → Int32) : Prop := (∀ k, k < 8 → row k = tk k ∧ row (8 + k) = tn k ∧ row (16 + k) = ts k) ∧ row 24 = tk 8 ∧ row 25 = tn 8 ∧ row 26 = ts 8
theorem upd_s (f : Nat → Int32) (k : Nat) (v : Int32) : upd f k v k = v := by unfold upd; rw [if_pos rfl]
theorem upd_n {f : Nat → Int32} {k i : Nat} (v : Int32) (h : i ≠ k) : upd f k v i = f i := by unfold upd; rw [if_neg h]
theorem p_rowRule {row tk tn ts : Nat → Int32} (h : pRow row tk tn ts) {k : Nat} (hk : k < 8) (x y z : Int32) : pRow (pRule row k x y z) (upd tk k x) (upd tn k y) (upd ts k z) := by
  unfold pRule
  refine ⟨fun j hj => ?_, ?_, ?_, ?_⟩
  · by_cases e : j = k
    · subst e
      refine ⟨?_, ?_, ?_⟩
      · rw [upd_n _ (by omega), upd_n _ (by omega), upd_s, upd_s]
      · rw [upd_n _ (by omega), upd_s, upd_s]
      · rw [upd_s, upd_s]
    · refine ⟨?_, ?_, ?_⟩
      · rw [upd_n _ (by omega), upd_n _ (by omega), upd_n _ e, upd_n _ e]; exact (h.1 j hj).1
      · rw [upd_n _ (by omega), upd_n _ (by omega), upd_n _ (by omega), upd_n _ e]; exact (h.1 j hj).2.1
      · rw [upd_n _ (by omega), upd_n _ (by omega), upd_n _ (by omega), upd_n _ e]; exact (h.1 j hj).2.2
  · rw [upd_n _ (by omega), upd_n _ (by omega), upd_n _ (by omega), upd_n _ (by omega)]; exact h.2.1
  · rw [upd_n _ (by omega), upd_n _ (by omega), upd_n _ (by omega), upd_n _ (by omega)]; exact h.2.2.1
  · rw [upd_n _ (by omega), upd_n _ (by omega), upd_n _ (by omega), upd_n _ (by omega)]; exact h.2.2.2
theorem p_rowCfa {row tk tn ts : Nat → Int32} (h : pRow row tk tn ts) (x y z : Int32) : pRow (pCfa row x y z) (upd tk 8 x) (upd tn 8 y) (upd ts 8 z) := by
  unfold pCfa
  refine ⟨fun j hj => ⟨?_, ?_, ?_⟩, ?_, ?_, ?_⟩
  · rw [upd_n _ (by omega), upd_n _ (by omega), upd_n _ (by omega), upd_n _ (by omega)]; exact (h.1 j hj).1
  · rw [upd_n _ (by omega), upd_n _ (by omega), upd_n _ (by omega), upd_n _ (by omega)]; exact (h.1 j hj).2.1
  · rw [upd_n _ (by omega), upd_n _ (by omega), upd_n _ (by omega), upd_n _ (by omega)]; exact (h.1 j hj).2.2
  · rw [upd_n _ (by omega), upd_n _ (by omega), upd_s, upd_s]
  · rw [upd_n _ (by omega), upd_s, upd_s]
  · rw [upd_s, upd_s]
theorem p_put {k : Nat} (hk : k < 9) (tk tn ts : Nat → Int32) (x y z : Int32) : f_Ro_put tk tn ts (nI k) x y z = some (upd tk k x, upd tn k y, upd ts k z) := by
  unfold f_Ro_put
  rw [if_neg (nI_in hk (by omega)), if_neg (nI_in hk (by omega)), if_neg (nI_in hk (by omega)), nI_clamp (by omega)]
theorem p_putCfa (tk tn ts : Nat → Int32) (r n : Int32) : f_Ro_putCfa tk tn ts r n = some (upd tk 8 1, upd tn 8 n, upd ts 8 r) := by
  unfold f_Ro_putCfa
  rw [show (8 : Int32) = nI 8 from rfl, p_put (by omega), Option.bind_some]
theorem p_cfaReg (tk ts : Nat → Int32) : f_Ro_cfaRegister tk ts = some (if tk 8 = 1 then ts 8 else 0) := by
  unfold f_Ro_cfaRegister
  rw [if_neg (by decide)]
  rw [if_neg (show ¬ ((8 : Int32) < 0 ∨ 9 ≤ (8 : Int32).toNatClampNeg) by decide)]
  show (if tk 8 = 1 then some (ts 8) else some 0) = _
  split <;> rfl
theorem p_cfaNum (tk tn : Nat → Int32) : f_Ro_cfaNumber tk tn = some (if tk 8 = 1 then tn 8 else 0) := by
  unfold f_Ro_cfaNumber
  rw [if_neg (by decide)]
  rw [if_neg (show ¬ ((8 : Int32) < 0 ∨ 9 ≤ (8 : Int32).toNatClampNeg) by decide)]
  show (if tk 8 = 1 then some (tn 8) else some 0) = _
  split <;> rfl
theorem p_copyRule {k : Nat} (hk : k < 9) (tk tn ts uk un us : Nat → Int32) : f_Ro_copyRule tk tn ts uk un us (nI k) = some (upd tk k (uk k), upd tn k (un k), upd ts k (us k)) := by
  unfold f_Ro_copyRule
  rw [if_neg (nI_in hk (by omega)), if_neg (nI_in hk (by omega)), if_neg (nI_in hk (by omega)), nI_clamp (by omega), p_put hk, Option.bind_some]
def pR4 (a0 a1 a2 a3 : Nat → Int32) (j : Nat) : Nat → Int32 := match j with | 0 => a0 | 1 => a1 | 2 => a2 | _ => a3
def pKp (kept : Nat → Int32) (d : Nat) (rk rn rs : Nat → Nat → Int32) : Prop := ∀ j, j < d → pRow (fun i => kept (27 * j + i)) (rk j) (rn j) (rs j)
theorem p_rowCpy {row tk tn ts uk un us : Nat → Int32} (h : pRow row tk tn ts) : pRow row (va_cpy tk uk 0 0 9) (va_cpy tn un 0 0 9) (va_cpy ts us 0 0 9) := by
  have e : ∀ (f g : Nat → Int32) (k : Nat), k < 9 → va_cpy f g 0 0 9 k = f k := fun f g k hk => by
    unfold va_cpy
    rw [if_pos ⟨Nat.zero_le _, by omega⟩]
    congr 1
    omega
  refine ⟨fun k hk => ?_, ?_, ?_, ?_⟩
  · rw [e _ _ _ (by omega), e _ _ _ (by omega), e _ _ _ (by omega)]; exact h.1 k hk
  · rw [e _ _ _ (by omega)]; exact h.2.1
  · rw [e _ _ _ (by omega)]; exact h.2.2.1
  · rw [e _ _ _ (by omega)]; exact h.2.2.2
theorem p_rowEq {row row2 tk tn ts : Nat → Int32} (h : pRow row tk tn ts) (e : ∀ i, i < 27 → row2 i = row i) : pRow row2 tk tn ts := by
  refine ⟨fun k hk => ?_, ?_, ?_, ?_⟩
  · rw [e _ (by omega), e _ (by omega), e _ (by omega)]; exact h.1 k hk
  · rw [e _ (by omega)]; exact h.2.1
  · rw [e _ (by omega)]; exact h.2.2.1
  · rw [e _ (by omega)]; exact h.2.2.2
theorem p_keepOld {kept row : Nat → Int32} {d j : Nat} (h : j < d) {tk tn ts : Nat → Int32} (hr : pRow (fun i => kept (27 * j + i)) tk tn ts) : pRow (fun i => pKeep kept d 27 row (27 * j + i)) tk tn ts :=
  p_rowEq hr (fun i hi => by unfold pKeep; rw [if_neg (by omega)])
theorem p_keepNew {kept row : Nat → Int32} {d : Nat} {tk tn ts : Nat → Int32} (hr : pRow row tk tn ts) : pRow (fun i => pKeep kept d 27 row (27 * d + i)) tk tn ts :=
  p_rowEq hr (fun i hi => by unfold pKeep; rw [if_pos ⟨by omega, by omega⟩]; congr 1; omega)
theorem p_backRow {kept row : Nat → Int32} {d : Nat} {tk tn ts : Nat → Int32} (hr : pRow (fun i => kept (27 * d + i)) tk tn ts) : pRow (pBack kept row d 27) tk tn ts :=
  p_rowEq hr (fun i hi => by unfold pBack; rw [if_pos hi])
