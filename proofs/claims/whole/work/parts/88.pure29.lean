/-! PURE: the CFA and a register of the caller, class against model -/
theorem p_opC (t l b h kn : Int32) (mb ms mw rg : Nat → Int32) (o B c c' : Int32) : f_Md_operation t l b h kn mb ms mw rg o B 0 c = f_Md_operation t l b h kn mb ms mw rg o B 0 c' := by
  unfold f_Md_operation f_Md_operation_49
  rw [if_pos rfl, if_pos rfl]
theorem p_evC (c c' : Int32) : ∀ (m : Nat) (t l b h rk kn : Int32) (mb ms mw rg : Nat → Int32) (B y2 y3 F : Int32), f_Md_evaluate_18 m t l b h rk kn mb ms mw rg B y2 y3 0 c F = f_Md_evaluate_18 m t l b h rk kn mb ms mw rg B y2 y3 0 c' F := by
  intro m
  induction m with
  | zero => intros; rfl
  | succ m ih =>
    intro t l b h rk kn mb ms mw rg B y2 y3 F
    rw [f_Md_evaluate_18, f_Md_evaluate_18]
    by_cases h1 : l ≤ t
    · rw [if_pos h1, if_pos h1]
    · rw [if_neg h1, if_neg h1]
      by_cases h2 : F = 0
      · rw [if_pos h2, if_pos h2]
      · rw [if_neg h2, if_neg h2]
        congr 1
        funext q
        rw [p_opC _ _ _ _ _ _ _ _ _ _ _ c c']
        congr 1
        funext q2
        by_cases h3 : q2.1 = 0
        · rw [if_pos h3, if_pos h3, ih]
        · rw [if_neg h3, if_neg h3]
theorem p_runC {mb bb : Nat → Int32} (hB : pB mb bb) {B L F : Nat} (hL : L ≤ 512) (hBL : B ≤ L) {cf c' kn : Int32} {mw fv rg sk ms : Nat → Int32} (hkn : ∀ r, r < 8 → pKn kn r → fv r = rg r) (hF : F ≤ 2000) (bg rA rL rB at0 lim0 bad0 rk : Int32) : pEv B (f_Rk_run 0 0 cf bg rA rL rB bb mw kn fv sk (nI B) (nI L) (nI F)) (f_Md_evaluate at0 lim0 bad0 0 rk kn mb ms mw rg (nI B) (nI L) (nI F) 0 c') := by
  have h := p_run (h := 0) (hc := 0) (cf := cf) (sk := sk) (ms := ms) (mw := mw) hB hL hBL hkn hF (by omega) (fun i hi => absurd hi (by omega)) bg rA rL rB at0 lim0 bad0 rk
  unfold f_Md_evaluate at h ⊢
  rw [p_evC cf c'] at h
  exact h
theorem p_top {h : Nat} (hh : h ≤ 16) (sk : Nat → Int32) : ∃ v, f_Rk_top (nI h) sk = some v := by
  unfold f_Rk_top
  match h, hh with
  | 0, _ => exact ⟨0, rfl⟩
  | g + 1, hh => rw [if_neg (nI_nle (by omega) (by omega)), p_g1, if_neg (nI_in (show g < 16 by omega) (by omega))]; exact ⟨_, rfl⟩
theorem p_topE {g : Nat} (hg : g < 16) (sk : Nat → Int32) : f_Rk_top (nI (g + 1)) sk = some (sk g) := by
  unfold f_Rk_top
  rw [if_neg (nI_nle (by omega) (by omega)), p_g1, if_neg (nI_in hg (by omega)), nI_clamp (by omega)]
theorem p_cfaBoth {mb bb : Nat → Int32} (hB : pB mb bb) {S F : Nat} (hS : S ≤ 512) (hF : F ≤ 2000) {kn : Int32} {row rok ron ros mw fv rg sk ms : Nat → Int32} (hr : pRow row rok ron ros) (hf : pRf S row) (hkn : ∀ r, r < 8 → pKn kn r → fv r = rg r) (rA rL rB H0 hc0 cf0 bg0 at0 lim0 bad0 h0 rk : Int32) :
    ∃ (f : Int32) (h : Nat) (t1 t2 t3 t4 t5 u1 u2 u3 u4 v : Int32) (sk' ms' : Nat → Int32), h ≤ 16 ∧ f_Fu_reckonCfa bb rA rL rB rok ron ros mw kn fv H0 hc0 cf0 bg0 sk (nI F) = some (f, t1, t2, t3, nI h, t4, t5, sk') ∧ f_Md_cfaNow at0 lim0 bad0 h0 rk kn mb row ms mw rg (nI F) = some (f, u1, u2, u3, u4, v, ms') ∧ (f = 0 → f_Rk_top (nI h) sk' = some v) := by
  have hC : f_Fu_reckonCfa bb rA rL rB rok ron ros mw kn fv H0 hc0 cf0 bg0 sk (nI F) = if rok 8 = 1 then (((f_Fr_knows kn (ros 8)).bind fun q62 => if q62 = 0 then (some (4, rA, rL, rB, 0, 0, bg0, sk)) else (if (ros 8) < 0 ∨ 8 ≤ (ros 8).toNatClampNeg then none else ((f_Rk_push 0 sk ((fv (ros 8).toNatClampNeg) + (ron 8))).bind fun q86 => some (0, rA, rL, rB, q86.1, 0, bg0, q86.2))))) else if rok 8 = 2 then (((f_Rk_run 0 0 cf0 bg0 rA rL rB bb mw kn fv sk (ron 8) ((ron 8) + (ros 8)) (nI F)).bind fun q101 => some (q101.1, q101.2.2.2.1, q101.2.2.2.2.1, q101.2.2.2.2.2.1, q101.2.1, 0, q101.2.2.1, q101.2.2.2.2.2.2))) else some (6, rA, rL, rB, 0, 0, bg0, sk) := by
    unfold f_Fu_reckonCfa f_Rk_clear
    rw [Option.bind_some, if_neg (by decide), if_neg (show ¬ ((8 : Int32) < 0 ∨ 9 ≤ (8 : Int32).toNatClampNeg) by decide), if_neg (show ¬ ((8 : Int32) < 0 ∨ 9 ≤ (8 : Int32).toNatClampNeg) by decide)]
    rfl
  have hM : f_Md_cfaNow at0 lim0 bad0 h0 rk kn mb row ms mw rg (nI F) = if row 24 = 0 then (some (6, at0, lim0, bad0, h0, rk, ms)) else (if row 24 = 1 then (if (row 26) < 0 ∨ 8 ≤ (row 26).toNatClampNeg then none else if ((kn >>> ((row 26) &&& 31)) &&& 1) = 1 then (some (0, at0, lim0, bad0, h0, (rg (row 26).toNatClampNeg) + (row 25), ms)) else (some (4, at0, lim0, bad0, h0, (rg (row 26).toNatClampNeg) + (row 25), ms))) else ((f_Md_evaluate at0 lim0 bad0 0 rk kn mb ms mw rg (row 25) ((row 25) + (row 26)) (nI F) 0 0).bind fun q103 => some (q103.1, q103.2.1, q103.2.2.1, q103.2.2.2.1, q103.2.2.2.2.1, q103.2.2.2.2.2.1, q103.2.2.2.2.2.2))) := by
    unfold f_Md_cfaNow
    rw [if_neg (show ¬ ((24 : Int32) < 0 ∨ 27 ≤ (24 : Int32).toNatClampNeg) by decide), if_neg (show ¬ ((24 : Int32) < 0 ∨ 27 ≤ (24 : Int32).toNatClampNeg) by decide), if_neg (show ¬ ((26 : Int32) < 0 ∨ 27 ≤ (26 : Int32).toNatClampNeg) by decide), if_neg (show ¬ ((25 : Int32) < 0 ∨ 27 ≤ (25 : Int32).toNatClampNeg) by decide), if_neg (show ¬ ((26 : Int32) < 0 ∨ 27 ≤ (26 : Int32).toNatClampNeg) by decide), if_neg (show ¬ ((25 : Int32) < 0 ∨ 27 ≤ (25 : Int32).toNatClampNeg) by decide), if_neg (show ¬ ((25 : Int32) < 0 ∨ 27 ≤ (25 : Int32).toNatClampNeg) by decide), if_neg (show ¬ ((26 : Int32) < 0 ∨ 27 ≤ (26 : Int32).toNatClampNeg) by decide)]
    rfl
  rw [hC, hM, ← hr.2.1, ← hr.2.2.1, ← hr.2.2.2]
  rcases hf.2.1 with z | z | z
  · rw [z, if_neg (by decide), if_neg (by decide), if_pos rfl]
    exact ⟨6, 0, _, _, _, _, _, _, _, _, _, _, _, _, by omega, rfl, rfl, fun z => absurd z (by decide)⟩
  · obtain ⟨j, hj, e⟩ := hf.2.2.1 z
    rw [z, if_pos rfl, if_neg (show ¬ (1 : Int32) = 0 by decide), if_pos rfl, e, if_neg (nI_in hj (by omega)), if_neg (nI_in hj (by omega)), nI_clamp (show j < 2 ^ 31 by omega)]
    rcases p_knC (kn := kn) hj with ⟨w1, w2⟩ | ⟨w1, w2⟩
    · rw [w2, Option.bind_some, if_neg (by decide), show (0 : Int32) = nI 0 from rfl, p_rPush (by omega), Option.bind_some, if_pos ((p_knM hj).mpr w1), hkn j hj w1]
      exact ⟨nI 0, 1, _, _, _, _, _, _, _, _, _, _, _, _, by omega, rfl, rfl, fun _ => by dsimp only; rw [p_topE (by omega), upd_s]⟩
    · rw [w2, Option.bind_some, if_pos rfl, if_neg (fun z => w1 ((p_knM hj).mp z))]
      exact ⟨4, 0, _, _, _, _, _, _, _, _, _, _, _, _, by omega, rfl, rfl, fun z => absurd z (by decide)⟩
  · obtain ⟨x, m, e1, e2, e3⟩ := hf.2.2.2 z
    rw [z, if_neg (by decide), if_pos rfl, if_neg (by decide), if_neg (by decide), e1, e2, nI_add]
    rcases p_runC (sk := sk) (ms := ms) (mw := mw) (cf := cf0) (c' := 0) hB (show x + m ≤ 512 by omega) (show x ≤ x + m by omega) hkn hF bg0 rA rL rB at0 lim0 bad0 rk with ⟨f, h, q, u, g0, g1, g2, g3⟩ | ⟨g, sk', ms', t1, t2, t3, u1, u2, u3, g1, g2, g3, g4⟩
    · rw [g2, g3, Option.bind_some, Option.bind_some]
      exact ⟨f, h, _, _, _, _, _, _, _, _, _, _, _, _, g1, rfl, rfl, fun z => absurd z g0⟩
    · rw [g3, g4, Option.bind_some, Option.bind_some]
      exact ⟨0, g + 1, _, _, _, _, _, _, _, _, _, _, _, _, by omega, rfl, rfl, fun _ => by dsimp only; rw [p_topE g1, g2 g (by omega)]⟩
theorem p_learn {r : Nat} (hr : r < 8) (ck : Int32) (cv : Nat → Int32) (v : Int32) : f_Fr_learn ck cv (nI r) v = some (ck ||| ((1 : Int32) <<< (nI r &&& 31)), upd cv r v) := by
  unfold f_Fr_learn
  rw [if_neg (nI_in hr (by omega)), nI_clamp (by omega)]
theorem p_forget {r : Nat} (hr : r < 8) (ck : Int32) (cv : Nat → Int32) : f_Fr_forget ck cv (nI r) = some (ck &&& (((1 : Int32) <<< (nI r &&& 31)) ^^^ (-1)), upd cv r 0) := by
  unfold f_Fr_forget
  rw [if_neg (nI_in hr (by omega)), nI_clamp (by omega)]
def pRec (r : Nat) (ck : Int32) (cv : Nat → Int32) (w v ck' : Int32) (cv' : Nat → Int32) : Prop :=
  (w = 1 ∧ ck' = ck ||| ((1 : Int32) <<< (nI r &&& 31)) ∧ cv' = upd cv r v) ∨ (w = 0 ∧ ck' = ck &&& (((1 : Int32) <<< (nI r &&& 31)) ^^^ (-1)) ∧ cv' = upd cv r 0)
theorem p_recover {mb bb : Nat → Int32} (hB : pB mb bb) {S F r : Nat} (hS : S ≤ 512) (hF : F ≤ 2000) (hr8 : r < 8) {kn : Int32} {row rok ron ros mw fv rg sk ms cv : Nat → Int32} (hr : pRow row rok ron ros) (hf : pRf S row) (hkn : ∀ r, r < 8 → pKn kn r → fv r = rg r) (ck cfa rA rL rB H0 hc0 cf0 bg0 at0 lim0 bad0 h0 rk : Int32) :
    ∃ (f t1 t2 t3 ck' t4 t5 t6 t7 u1 u2 u3 u4 v : Int32) (cv' sk' ms' : Nat → Int32), f_Fu_recover bb rA rL rB rok ron ros mw kn fv ck cv H0 hc0 cf0 bg0 sk (nI r) cfa (nI F) = some (f, t1, t2, t3, ck', cv', t4, t5, t6, t7, sk') ∧ f_Md_callers at0 lim0 bad0 h0 rk kn mb row ms mw rg (nI r) (nI F) cfa = some (f, u1, u2, u3, u4, v, ms') ∧ (f ≠ 0 → ck' = ck) ∧ (f = 0 → ∃ w, f_Md_isKnownThen kn row (nI r) = some w ∧ pRec r ck cv w v ck' cv') := by
  obtain ⟨⟨w, hw, e⟩, hw4, hw56⟩ := hf.1 r hr8
  obtain ⟨r1, r2, r3⟩ := hr.1 r hr8
  have e8 : 8 + nI r = nI (8 + r) := nI_add 8 r
  have e16 : 16 + nI r = nI (16 + r) := nI_add 16 r
  have c8 : (nI (8 + r)).toNatClampNeg = 8 + r := nI_clamp (by omega)
  have c16 : (nI (16 + r)).toNatClampNeg = 16 + r := nI_clamp (by omega)
  have cr : (nI r).toNatClampNeg = r := nI_clamp (by omega)
  have i8 : ¬ (nI (8 + r) < 0 ∨ 27 ≤ 8 + r) := by have := nI_in (show 8 + r < 27 by omega) (show 27 < 2 ^ 31 by omega); rw [c8] at this; exact this
  have i16 : ¬ (nI (16 + r) < 0 ∨ 27 ≤ 16 + r) := by have := nI_in (show 16 + r < 27 by omega) (show 27 < 2 ^ 31 by omega); rw [c16] at this; exact this
  have ir27 : ¬ (nI r < 0 ∨ 27 ≤ r) := by have := nI_in (show r < 27 by omega) (show 27 < 2 ^ 31 by omega); rw [cr] at this; exact this
  have ir8 : ¬ (nI r < 0 ∨ 8 ≤ r) := by have := nI_in hr8 (show 8 < 2 ^ 31 by omega); rw [cr] at this; exact this
  have ir9 : ¬ (nI r < 0 ∨ 9 ≤ r) := by have := nI_in (show r < 9 by omega) (show 9 < 2 ^ 31 by omega); rw [cr] at this; exact this
  have hreg : ∀ j, j < 8 → (∃ ck' cv', f_Fu_recoverRegister kn fv ck cv (nI r) (nI j) = some (0, ck', cv') ∧ ((((kn >>> (nI j &&& 31)) &&& 1) = 1 ∧ pRec r ck cv 1 (rg j) ck' cv') ∨ (¬ ((kn >>> (nI j &&& 31)) &&& 1) = 1 ∧ pRec r ck cv 0 (rg j) ck' cv'))) := by
    intro j hj
    unfold f_Fu_recoverRegister
    rcases p_knC (kn := kn) hj with ⟨w1, w2⟩ | ⟨w1, w2⟩
    · rw [w2, Option.bind_some, if_neg (by decide), if_neg (nI_in hj (by omega)), nI_clamp (show j < 2 ^ 31 by omega), p_learn hr8, Option.bind_some, hkn j hj w1]
      exact ⟨_, _, rfl, Or.inl ⟨(p_knM hj).mpr w1, Or.inl ⟨rfl, rfl, rfl⟩⟩⟩
    · rw [w2, Option.bind_some, if_pos rfl, p_forget hr8, Option.bind_some]
      exact ⟨_, _, rfl, Or.inr ⟨fun z => w1 ((p_knM hj).mp z), Or.inr ⟨rfl, rfl, rfl⟩⟩⟩
  have hword : ∀ x : Int32, (∃ j, j < 256 ∧ x = nI (4 * j) ∧ f_Fu_recoverWord mw ck cv (nI r) x = some (0, ck ||| ((1 : Int32) <<< (nI r &&& 31)), upd cv r (mw j)) ∧ ∀ q, f_Md_readWord q mw x = some (0, mw j)) ∨ (f_Fu_recoverWord mw ck cv (nI r) x = some (4, ck, cv) ∧ ∀ q, f_Md_readWord q mw x = some (4, q)) := by
    intro x
    rcases p_addr x with ⟨j, hj, rfl, z1, z2⟩ | ⟨-, z1, z2⟩
    · refine Or.inl ⟨j, hj, rfl, ?_, fun q => p_readWord q mw hj z2⟩
      unfold f_Fu_recoverWord
      rw [z1, Option.bind_some, if_neg (by decide), p_load mw hj, Option.bind_some, p_learn hr8, Option.bind_some]
    · refine Or.inr ⟨?_, fun q => p_readWordN q mw z2⟩
      unfold f_Fu_recoverWord
      rw [z1, Option.bind_some, if_pos rfl]
  have hexp : ∀ x m : Nat, x + m ≤ S → pEv x (f_Rk_run (nI 1) 1 cfa bg0 rA rL rB bb mw kn fv (upd sk 0 cfa) (nI x) (nI (x + m)) (nI F)) (f_Md_evaluate at0 lim0 bad0 (nI 1) rk kn mb (upd ms 0 cfa) mw rg (nI x) (nI (x + m)) (nI F) 1 cfa) := fun x m hx => p_run hB (by omega) (by omega) hkn hF (by omega) (p_stU (h := 0) (fun i hi => absurd hi (by omega)) cfa) bg0 rA rL rB at0 lim0 bad0 rk
  unfold f_Fu_recover f_Md_callers f_Md_isKnownThen f_Md_expressionOf f_Rk_clear f_Rk_giveCfa
  simp only [e8, e16, c8, c16, cr, if_neg ir9, if_neg ir8, if_neg ir27, if_neg i8, if_neg i16, ← r1, ← r2, ← r3, show f_Rk_push 0 sk cfa = _ from p_rPush (h := 0) (by omega) sk cfa, show f_Md_push 0 ms cfa = _ from p_mPush (h := 0) (by omega) ms cfa, Option.bind_some]
  match w, hw, e with
  | 0, _, e =>
    simp only [e, show (nI 0 = (0 : Int32)) = True from eq_true (by decide), show (nI 0 = (1 : Int32)) = False from eq_false (by decide), show (nI 0 = (2 : Int32)) = False from eq_false (by decide), show (nI 0 = (3 : Int32)) = False from eq_false (by decide), show (nI 0 = (4 : Int32)) = False from eq_false (by decide), show (nI 0 = (5 : Int32)) = False from eq_false (by decide), show (nI 0 = (6 : Int32)) = False from eq_false (by decide), if_true, if_false, or_false, false_or, or_self, or_true, true_or]
    rw [p_forget hr8, Option.bind_some]
    exact ⟨_, _, _, _, _, _, _, _, _, _, _, _, _, _, _, _, _, rfl, rfl, fun z => absurd rfl z, fun _ => ⟨0, rfl, Or.inr ⟨rfl, rfl, rfl⟩⟩⟩
  | 1, _, e =>
    simp only [e, show (nI 1 = (0 : Int32)) = False from eq_false (by decide), show (nI 1 = (1 : Int32)) = True from eq_true (by decide), show (nI 1 = (2 : Int32)) = False from eq_false (by decide), show (nI 1 = (3 : Int32)) = False from eq_false (by decide), show (nI 1 = (4 : Int32)) = False from eq_false (by decide), show (nI 1 = (5 : Int32)) = False from eq_false (by decide), show (nI 1 = (6 : Int32)) = False from eq_false (by decide), if_true, if_false, or_false, false_or, or_self, or_true, true_or]
    obtain ⟨ck', cv', h1, h2⟩ := hreg r hr8
    rw [h1, Option.bind_some]
    rcases h2 with ⟨h2, h3⟩ | ⟨h2, h3⟩
    · rw [if_pos h2]
      exact ⟨_, _, _, _, _, _, _, _, _, _, _, _, _, _, _, _, _, rfl, rfl, fun z => absurd rfl z, fun _ => ⟨1, rfl, h3⟩⟩
    · rw [if_neg h2]
      exact ⟨_, _, _, _, _, _, _, _, _, _, _, _, _, _, _, _, _, rfl, rfl, fun z => absurd rfl z, fun _ => ⟨0, rfl, h3⟩⟩
  | 2, _, e =>
    simp only [e, show (nI 2 = (0 : Int32)) = False from eq_false (by decide), show (nI 2 = (1 : Int32)) = False from eq_false (by decide), show (nI 2 = (2 : Int32)) = True from eq_true (by decide), show (nI 2 = (3 : Int32)) = False from eq_false (by decide), show (nI 2 = (4 : Int32)) = False from eq_false (by decide), show (nI 2 = (5 : Int32)) = False from eq_false (by decide), show (nI 2 = (6 : Int32)) = False from eq_false (by decide), if_true, if_false, or_false, false_or, or_self, or_true, true_or]
    rcases hword (cfa + row (8 + r)) with ⟨j, hj, -, h1, h2⟩ | ⟨h1, h2⟩
    · rw [h1, h2, Option.bind_some, Option.bind_some]
      exact ⟨_, _, _, _, _, _, _, _, _, _, _, _, _, _, _, _, _, rfl, rfl, fun z => absurd rfl z, fun _ => ⟨1, rfl, Or.inl ⟨rfl, rfl, rfl⟩⟩⟩
    · rw [h1, h2, Option.bind_some, Option.bind_some]
      exact ⟨_, _, _, _, _, _, _, _, _, _, _, _, _, _, _, _, _, rfl, rfl, fun _ => rfl, fun z => absurd (show (4 : Int32) = 0 from z) (by decide)⟩
  | 3, _, e =>
    simp only [e, show (nI 3 = (0 : Int32)) = False from eq_false (by decide), show (nI 3 = (1 : Int32)) = False from eq_false (by decide), show (nI 3 = (2 : Int32)) = False from eq_false (by decide), show (nI 3 = (3 : Int32)) = True from eq_true (by decide), show (nI 3 = (4 : Int32)) = False from eq_false (by decide), show (nI 3 = (5 : Int32)) = False from eq_false (by decide), show (nI 3 = (6 : Int32)) = False from eq_false (by decide), if_true, if_false, or_false, false_or, or_self, or_true, true_or]
    rw [p_learn hr8, Option.bind_some]
    exact ⟨_, _, _, _, _, _, _, _, _, _, _, _, _, _, _, _, _, rfl, rfl, fun z => absurd rfl z, fun _ => ⟨1, rfl, Or.inl ⟨rfl, rfl, rfl⟩⟩⟩
  | 4, _, e =>
    simp only [e, show (nI 4 = (0 : Int32)) = False from eq_false (by decide), show (nI 4 = (1 : Int32)) = False from eq_false (by decide), show (nI 4 = (2 : Int32)) = False from eq_false (by decide), show (nI 4 = (3 : Int32)) = False from eq_false (by decide), show (nI 4 = (4 : Int32)) = True from eq_true (by decide), show (nI 4 = (5 : Int32)) = False from eq_false (by decide), show (nI 4 = (6 : Int32)) = False from eq_false (by decide), if_true, if_false, or_false, false_or, or_self, or_true, true_or]
    obtain ⟨j, hj, ej⟩ := hw4 e
    rw [ej]
    obtain ⟨ck', cv', h1, h2⟩ := hreg j hj
    rw [h1, Option.bind_some, if_neg (nI_in hj (by omega)), nI_clamp (show j < 2 ^ 31 by omega)]
    rcases h2 with ⟨h2, h3⟩ | ⟨h2, h3⟩
    · rw [if_pos h2]
      exact ⟨_, _, _, _, _, _, _, _, _, _, _, _, _, _, _, _, _, rfl, rfl, fun z => absurd rfl z, fun _ => ⟨1, rfl, h3⟩⟩
    · rw [if_neg h2]
      exact ⟨_, _, _, _, _, _, _, _, _, _, _, _, _, _, _, _, _, rfl, rfl, fun z => absurd rfl z, fun _ => ⟨0, rfl, h3⟩⟩
  | 5, _, e =>
    simp only [e, show (nI 5 = (0 : Int32)) = False from eq_false (by decide), show (nI 5 = (1 : Int32)) = False from eq_false (by decide), show (nI 5 = (2 : Int32)) = False from eq_false (by decide), show (nI 5 = (3 : Int32)) = False from eq_false (by decide), show (nI 5 = (4 : Int32)) = False from eq_false (by decide), show (nI 5 = (5 : Int32)) = True from eq_true (by decide), show (nI 5 = (6 : Int32)) = False from eq_false (by decide), if_true, if_false, or_false, false_or, or_self, or_true, true_or]
    obtain ⟨x, m, e1, e2, e3⟩ := hw56 (Or.inl e)
    rw [e1, e2, nI_add]
    rcases hexp x m e3 with ⟨f, h, q, u, g0, g1, g2, g3⟩ | ⟨g, sk', ms', t1, t2, t3, u1, u2, u3, g1, g2, g3, g4⟩
    · rw [show f_Rk_run (nI (0 + 1)) 1 cfa bg0 rA rL rB bb mw kn fv (upd sk 0 cfa) (nI x) (nI (x + m)) (nI F) = _ from g2, show f_Md_evaluate at0 lim0 bad0 (nI (0 + 1)) rk kn mb (upd ms 0 cfa) mw rg (nI x) (nI (x + m)) (nI F) 1 cfa = _ from g3, Option.bind_some, Option.bind_some, Option.bind_some]
      dsimp only
      rw [if_neg g0, if_neg g0]
      exact ⟨f, _, _, _, _, _, _, _, _, _, _, _, _, _, _, _, _, rfl, rfl, fun _ => rfl, fun z => absurd z g0⟩
    · rw [show f_Rk_run (nI (0 + 1)) 1 cfa bg0 rA rL rB bb mw kn fv (upd sk 0 cfa) (nI x) (nI (x + m)) (nI F) = _ from g3, show f_Md_evaluate at0 lim0 bad0 (nI (0 + 1)) rk kn mb (upd ms 0 cfa) mw rg (nI x) (nI (x + m)) (nI F) 1 cfa = _ from g4, Option.bind_some, Option.bind_some, Option.bind_some]
      dsimp only
      rw [if_pos rfl, if_pos rfl]
      unfold f_Fu_recoverReckoned
      rw [if_pos (show nI 5 = (5 : Int32) from rfl), p_topE g1, Option.bind_some, g2 g (by omega)]
      rcases hword (ms' g) with ⟨j, hj, -, h1, h2⟩ | ⟨h1, h2⟩
      · rw [h1, h2, Option.bind_some, Option.bind_some, Option.bind_some]
        exact ⟨_, _, _, _, _, _, _, _, _, _, _, _, _, _, _, _, _, rfl, rfl, fun z => absurd rfl z, fun _ => ⟨1, rfl, Or.inl ⟨rfl, rfl, rfl⟩⟩⟩
      · rw [h1, h2, Option.bind_some, Option.bind_some, Option.bind_some]
        exact ⟨_, _, _, _, _, _, _, _, _, _, _, _, _, _, _, _, _, rfl, rfl, fun _ => rfl, fun z => absurd (show (4 : Int32) = 0 from z) (by decide)⟩
  | 6, _, e =>
    simp only [e, show (nI 6 = (0 : Int32)) = False from eq_false (by decide), show (nI 6 = (1 : Int32)) = False from eq_false (by decide), show (nI 6 = (2 : Int32)) = False from eq_false (by decide), show (nI 6 = (3 : Int32)) = False from eq_false (by decide), show (nI 6 = (4 : Int32)) = False from eq_false (by decide), show (nI 6 = (5 : Int32)) = False from eq_false (by decide), show (nI 6 = (6 : Int32)) = True from eq_true (by decide), if_true, if_false, or_false, false_or, or_self, or_true, true_or]
    obtain ⟨x, m, e1, e2, e3⟩ := hw56 (Or.inr e)
    rw [e1, e2, nI_add]
    rcases hexp x m e3 with ⟨f, h, q, u, g0, g1, g2, g3⟩ | ⟨g, sk', ms', t1, t2, t3, u1, u2, u3, g1, g2, g3, g4⟩
    · rw [show f_Rk_run (nI (0 + 1)) 1 cfa bg0 rA rL rB bb mw kn fv (upd sk 0 cfa) (nI x) (nI (x + m)) (nI F) = _ from g2, show f_Md_evaluate at0 lim0 bad0 (nI (0 + 1)) rk kn mb (upd ms 0 cfa) mw rg (nI x) (nI (x + m)) (nI F) 1 cfa = _ from g3, Option.bind_some, Option.bind_some, Option.bind_some]
      dsimp only
      rw [if_neg g0]
      exact ⟨f, _, _, _, _, _, _, _, _, _, _, _, _, _, _, _, _, rfl, rfl, fun _ => rfl, fun z => absurd z g0⟩
    · rw [show f_Rk_run (nI (0 + 1)) 1 cfa bg0 rA rL rB bb mw kn fv (upd sk 0 cfa) (nI x) (nI (x + m)) (nI F) = _ from g3, show f_Md_evaluate at0 lim0 bad0 (nI (0 + 1)) rk kn mb (upd ms 0 cfa) mw rg (nI x) (nI (x + m)) (nI F) 1 cfa = _ from g4, Option.bind_some, Option.bind_some, Option.bind_some]
      dsimp only
      rw [if_pos rfl]
      unfold f_Fu_recoverReckoned
      rw [if_neg (show ¬ nI 6 = (5 : Int32) by decide), p_topE g1, Option.bind_some, g2 g (by omega), p_learn hr8, Option.bind_some, Option.bind_some]
      exact ⟨_, _, _, _, _, _, _, _, _, _, _, _, _, _, _, _, _, rfl, rfl, fun z => absurd rfl z, fun _ => ⟨1, rfl, Or.inl ⟨rfl, rfl, rfl⟩⟩⟩
  | w + 7, hw, _ => exact absurd hw (by omega)
