/-! PURE: the registers of the caller, all eight -/
def pFr (u : Nat) (kn pc uw : Int32) (fv : Nat → Int32) (ck mkn mpc muw : Int32) (rg : Nat → Int32) : Prop := mkn = kn ∧ mpc = pc ∧ muw = uw ∧ (∃ w, w ≤ u ∧ uw = nI w) ∧ (∀ r, r < 8 → (pKn kn r → fv r = rg r) ∧ (¬ pKn kn r → fv r = 0)) ∧ (∀ j, 8 ≤ j → j < 32 → ¬ pKn ck j)
theorem p_frUp {u u' : Nat} {kn pc uw : Int32} {fv : Nat → Int32} {ck mkn mpc muw : Int32} {rg : Nat → Int32} (h : pFr u kn pc uw fv ck mkn mpc muw rg) (hu : u ≤ u') : pFr u' kn pc uw fv ck mkn mpc muw rg := by
  obtain ⟨h1, h2, h3, ⟨w, h4, h5⟩, h6⟩ := h
  exact ⟨h1, h2, h3, ⟨w, by omega, h5⟩, h6⟩
theorem p_knM0 {kn : Int32} {r : Nat} (hr : r < 8) : ((kn >>> (nI r &&& 31)) &&& 1) = 0 ↔ ¬ pKn kn r := by
  rw [← p_knM hr]
  obtain ⟨j, hj, e⟩ := pk_andE (kn >>> (nI r &&& 31)) (m := 1) 1 (by decide)
  rw [e]
  match j, hj with
  | 0, _ => decide
  | 1, _ => decide
  | j + 2, hj => exact absurd hj (by omega)
theorem p_216 (thr msz ent at0 lim0 bad0 kr pl hh rk kn pc uw : Int32) (mb begins isC common code data back first range frm to row crow kept ms mw rg nx : Nat → Int32) (x1 x2 x3 x5 x6 th : Int32) {q : Nat} (hq : q < 8) : ∀ (k n x : Nat), x + k = 8 → k < n → f_Md_unwind_216 n thr msz ent at0 lim0 bad0 kr pl hh rk kn pc uw mb begins isC common code data back first range frm to row crow kept ms mw (pCp nx rg x) nx x1 x2 x3 (nI q) x5 x6 th (nI x) = some (0, thr, ent, at0, lim0, bad0, kr, pl, hh, rk, th, nx q, uw + 1, begins, isC, common, code, data, back, first, range, frm, to, row, crow, kept, ms, pCp nx rg 8, nx) := by
  intro k
  induction k with
  | zero =>
    intro n x hx hn
    match n, hn with
    | n + 1, _ =>
      obtain rfl : x = 8 := by omega
      rw [f_Md_unwind_216, if_pos (show (8 : Int32) ≤ nI 8 by decide), if_neg (nI_in hq (by omega)), nI_clamp (show q < 2 ^ 31 by omega)]
  | succ k ih =>
    intro n x hx hn
    match n, hn with
    | n + 1, hn =>
      rw [f_Md_unwind_216, if_neg (show ¬ (8 : Int32) ≤ nI x from nI_ge (b := 8) (by omega) (by omega)), if_neg (nI_in (show x < 8 by omega) (by omega)), if_neg (nI_in (show x < 8 by omega) (by omega)), nI_clamp (show x < 2 ^ 31 by omega), nI_1]
      have e1 : upd (pCp nx rg x) x (nx x) = pCp nx rg (x + 1) := by
        funext i
        unfold upd pCp
        by_cases h : i = x
        · rw [if_pos h, if_pos (by omega), h]
        · rw [if_neg h]
          by_cases h2 : i < x
          · rw [if_pos h2, if_pos (by omega)]
          · rw [if_neg h2, if_neg (by omega)]
      rw [e1]
      exact ih n (x + 1) (by omega) (by omega)
theorem p_137 {mb bb : Nat → Int32} (hB : pB mb bb) {S F u q : Nat} (hS : S ≤ 512) (hF : F ≤ 2000) (hq : q < 8) {row rok ron ros cok con cos r0k r0n r0s r1k r1n r1s r2k r2n r2s r3k r3n r3s mw fv rg fr beg ins ends com cod dat rr fi ra begins isC common code data back first range frm to crow kept : Nat → Int32} (hr : pRow row rok ron ros) (hf : pRf S row) {kn pc uw : Int32} (huw : ∃ w, w ≤ u ∧ uw = nI w) (hkn : ∀ r, r < 8 → (pKn kn r → fv r = rg r) ∧ (¬ pKn kn r → fv r = 0)) {x5 : Nat} (hx5 : rr x5 = nI q) (sz cnt lo lr ln lb td tp to_ tr_ tn_ tb_ x2 x3 cfa thr msz ent kr pl y2 y3 : Int32) (x4 : Nat) : ∀ (k x n m : Nat) (rA rL rB H hc cf bg ck at0 lim0 bad0 hh rk y5 th : Int32) (cv sk ms nx : Nat → Int32), x + k = 8 → k < n → k < m → (∀ j, j < x → (pKn ck j ↔ pKn th j) ∧ (pKn th j → cv j = nx j) ∧ (¬ pKn th j → cv j = 0)) → (∀ j, 8 ≤ j → j < 32 → ¬ pKn ck j) → (∀ j, x ≤ j → j < 32 → ¬ pKn th j) →
    ∃ r s, f_Fu_unwind_137 n sz bb rA rL rB cnt lo lr ln lb td tp to_ tr_ tn_ tb_ rok ron ros cok con cos r0k r0n r0s r1k r1n r1s r2k r2n r2s r3k r3n r3s mw kn pc uw fv ck cv H hc cf bg sk fr beg ins ends com cod dat rr fi ra (nI F) x2 x3 x4 x5 0 cfa (nI x) = some (.inr r) ∧ f_Md_unwind_135 m thr msz ent at0 lim0 bad0 kr pl hh rk kn pc uw mb begins isC common code data back first range frm to row crow kept ms mw rg nx (nI F) y2 y3 (nI q) y5 cfa th (nI x) = some s ∧ r.1 = s.1 ∧ s.2.1 = thr ∧ pFr (u + 1) r.2.2.2.2.2.2.2.2.2.2.2.2.2.2.2.2.2.2.2.2.2.2.2.2.2.2.2.2.2.2.2.2.2.1 r.2.2.2.2.2.2.2.2.2.2.2.2.2.2.2.2.2.2.2.2.2.2.2.2.2.2.2.2.2.2.2.2.2.2.1 r.2.2.2.2.2.2.2.2.2.2.2.2.2.2.2.2.2.2.2.2.2.2.2.2.2.2.2.2.2.2.2.2.2.2.2.1 r.2.2.2.2.2.2.2.2.2.2.2.2.2.2.2.2.2.2.2.2.2.2.2.2.2.2.2.2.2.2.2.2.2.2.2.2.1 r.2.2.2.2.2.2.2.2.2.2.2.2.2.2.2.2.2.2.2.2.2.2.2.2.2.2.2.2.2.2.2.2.2.2.2.2.2.1 s.2.2.2.2.2.2.2.2.2.2.1 s.2.2.2.2.2.2.2.2.2.2.2.1 s.2.2.2.2.2.2.2.2.2.2.2.2.1 s.2.2.2.2.2.2.2.2.2.2.2.2.2.2.2.2.2.2.2.2.2.2.2.2.2.2.2.1 := by
  intro k
  induction k with
  | zero =>
    intro x n m rA rL rB H hc cf bg ck at0 lim0 bad0 hh rk y5 th cv sk ms nx hx hn hm h1 h2 h3
    match n, m, hn, hm with
    | n + 1, m + 1, _, _ =>
      obtain rfl : x = 8 := by omega
      have hck : ck = th := p_knE (fun j hj => by
        rcases Nat.lt_or_ge j 8 with z | z
        · exact (h1 j z).1
        · exact ⟨fun w => absurd w (h2 j z hj), fun w => absurd w (h3 j z hj)⟩)
      subst hck
      rw [f_Fu_unwind_137, f_Md_unwind_135, if_pos (show (8 : Int32) ≤ nI 8 by decide), if_pos (show (8 : Int32) ≤ nI 8 by decide), if_pos rfl, hx5]
      unfold f_Fu_goToCaller f_Fr_takeRegisters
      rcases p_knC (kn := ck) hq with ⟨w1, w2⟩ | ⟨w1, w2⟩
      · rw [w2, Option.bind_some, if_neg (by decide), Option.bind_some, if_neg (nI_in hq (by omega)), nI_clamp (show q < 2 ^ 31 by omega), Option.bind_some, if_neg (fun z => (p_knM0 hq).mp z w1)]
        have h216 := p_216 thr msz ent at0 lim0 bad0 kr pl hh rk kn pc uw mb begins isC common code data back first range frm to row crow kept ms mw rg nx (nI F) y2 y3 y5 cfa ck hq 8 LF 0 (by omega) (by unfold LF; omega)
        rw [show pCp nx rg 0 = rg by funext i; unfold pCp; rw [if_neg (by omega)]] at h216
        rw [show f_Md_unwind_216 LF thr msz ent at0 lim0 bad0 kr pl hh rk kn pc uw mb begins isC common code data back first range frm to row crow kept ms mw rg nx (nI F) y2 y3 (nI q) y5 cfa ck 0 = _ from h216]
        have hcpy : ∀ j, j < 8 → va_cpy cv fv 0 0 8 j = cv j := fun j hj => by rw [pk_cpy_in (by omega) (by omega)]; congr 1; omega
        refine ⟨_, _, rfl, rfl, rfl, rfl, rfl, ?_, rfl, ?_, fun j hj => ?_, h2⟩
        · dsimp only
          rw [hcpy q hq, (h1 q hq).2.1 w1]
        · obtain ⟨w, hw, e⟩ := huw
          dsimp only
          exact ⟨w + 1, by omega, by rw [e, nI_1]⟩
        · dsimp only
          rw [hcpy j hj, show pCp nx rg 8 j = nx j from if_pos hj]
          exact (h1 j hj).2
      · rw [w2, Option.bind_some, if_pos rfl, Option.bind_some, if_pos ((p_knM0 hq).mpr w1)]
        obtain ⟨w, hw, e⟩ := huw
        exact ⟨_, _, rfl, rfl, rfl, rfl, rfl, rfl, rfl, ⟨w, by omega, e⟩, hkn, h2⟩
  | succ k ih =>
    intro x n m rA rL rB H hc cf bg ck at0 lim0 bad0 hh rk y5 th cv sk ms nx hx hn hm h1 h2 h3
    match n, m, hn, hm with
    | n + 1, m + 1, hn, hm =>
      have hx8 : x < 8 := by omega
      obtain ⟨f, t1, t2, t3, ck', t4, t5, t6, t7, u1, u2, u3, u4, v, cv', sk', ms', g1, g2, g3, g4⟩ := p_recover hB (sk := sk) (ms := ms) (cv := cv) (mw := mw) hS hF hx8 hr hf (fun r hr => (hkn r hr).1) ck cfa rA rL rB H hc cf bg at0 lim0 bad0 hh rk
      rw [f_Fu_unwind_137, f_Md_unwind_135, if_neg (show ¬ (8 : Int32) ≤ nI x from nI_ge (b := 8) (by omega) (by omega)), if_neg (show ¬ (8 : Int32) ≤ nI x from nI_ge (b := 8) (by omega) (by omega)), if_pos rfl, g1, g2, Option.bind_some, Option.bind_some]
      dsimp only
      by_cases hf0 : f = 0
      · subst hf0
        obtain ⟨w, k1, k2⟩ := g4 rfl
        rw [if_pos rfl, if_neg (nI_in hx8 (by omega)), k1, Option.bind_some, nI_clamp (show x < 2 ^ 31 by omega), nI_1]
        rcases k2 with ⟨rfl, e1, e2⟩ | ⟨rfl, e1, e2⟩
        · rw [if_neg (by decide)]
          subst e1 e2
          refine ih (x + 1) n m _ _ _ _ _ _ _ _ _ _ _ _ _ _ _ _ _ _ _ (by omega) (by omega) (by omega) (fun j hj => ?_) (fun j hj hj2 => ?_) (fun j hj hj2 => ?_)
          · rw [p_kn1 hx8 (by omega), p_kn1 hx8 (by omega)]
            by_cases e : j = x
            · subst e
              rw [upd_s, upd_s]
              exact ⟨⟨fun _ => Or.inr rfl, fun _ => Or.inr rfl⟩, fun _ => rfl, fun z => absurd (Or.inr rfl) z⟩
            · rw [upd_n _ e, upd_n _ e]
              obtain ⟨a1, a2, a3⟩ := h1 j (by omega)
              exact ⟨⟨fun z => Or.inl (a1.mp (z.resolve_right e)), fun z => Or.inl (a1.mpr (z.resolve_right e))⟩, fun z => a2 (z.resolve_right e), fun z => a3 (fun y => z (Or.inl y))⟩
          · rw [p_kn1 hx8 hj2]
            exact fun z => z.elim (h2 j hj hj2) (fun y => by omega)
          · rw [p_kn1 hx8 hj2]
            exact fun z => z.elim (h3 j (by omega) hj2) (fun y => by omega)
        · rw [if_pos rfl]
          subst e1 e2
          refine ih (x + 1) n m _ _ _ _ _ _ _ _ _ _ _ _ _ _ _ _ _ _ _ (by omega) (by omega) (by omega) (fun j hj => ?_) (fun j hj hj2 => ?_) (fun j hj hj2 => ?_)
          · rw [p_kn2 hx8 (by omega)]
            by_cases e : j = x
            · subst e
              rw [upd_s, upd_s]
              have hz := h3 j (Nat.le_refl _) (by omega)
              exact ⟨⟨fun z => absurd rfl z.2, fun z => absurd z hz⟩, fun z => absurd z hz, fun _ => rfl⟩
            · rw [upd_n _ e, upd_n _ e]
              obtain ⟨a1, a2, a3⟩ := h1 j (by omega)
              exact ⟨⟨fun z => a1.mp z.1, fun z => ⟨a1.mpr z, e⟩⟩, a2, a3⟩
          · rw [p_kn2 hx8 hj2]
            exact fun z => h2 j hj hj2 z.1
          · exact h3 j (by omega) hj2
      · obtain rfl := g3 hf0
        obtain ⟨w, hw, e⟩ := huw
        rw [if_neg hf0]
        obtain ⟨n, rfl⟩ : ∃ n', n = n' + 1 := ⟨n - 1, by omega⟩
        rw [f_Fu_unwind_137]
        simp only [if_neg hf0, ite_self]
        exact ⟨_, _, rfl, rfl, rfl, rfl, rfl, rfl, rfl, ⟨w, by omega, e⟩, hkn, h2⟩
