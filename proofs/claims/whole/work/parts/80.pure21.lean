/-! PURE: what an instruction does keeps the facts on rows -/
theorem p_effRf {S w k d : Nat} (hw : w < 23) (hk : k < 8) (num bf cod dat pl : Int32) (row crow kept : Nat → Int32) (hn : pNum (nI w) num bf S) (h : pRf S row) (hc : nI w = 6 → pRf S crow) (hK : ∀ j, j < d → pRf S (fun i => kept (27 * j + i))) (h11 : nI w = 11 → 0 < d) : pRf S (pEff (nI w) k num bf cod dat d pl row crow kept).2.2.1 ∧ ∀ j, j < (pEff (nI w) k num bf cod dat d pl row crow kept).1 → pRf S (fun i => (pEff (nI w) k num bf cod dat d pl row crow kept).2.2.2 (27 * j + i)) := by
  have nd : ∀ {x : Int32} {y : Int32} {P : Prop}, ¬ x = y → x = y → P := fun a b => absurd b a
  match w, hw, hn, hc, h11 with
  | 0, _, hn, hc, h11 =>
    rw [p_e0]
    exact ⟨h, hK⟩
  | 1, _, hn, hc, h11 =>
    rw [p_e1]
    exact ⟨h, hK⟩
  | 2, _, hn, hc, h11 =>
    rw [p_e2]
    exact ⟨h, hK⟩
  | 3, _, hn, hc, h11 =>
    rw [p_e3]
    exact ⟨h, hK⟩
  | 4, _, hn, hc, h11 =>
    rw [p_e4]
    exact ⟨h, hK⟩
  | 5, _, hn, hc, h11 =>
    rw [p_e5]
    exact ⟨p_rfRule h hk ⟨2, by omega, rfl⟩ (fun z => absurd z (by decide)) (fun z => absurd z (by decide)), hK⟩
  | 6, _, hn, hc, h11 =>
    rw [p_e6]
    exact ⟨p_rfRule h hk ((hc rfl).1 k hk).1 ((hc rfl).1 k hk).2.1 ((hc rfl).1 k hk).2.2, hK⟩
  | 7, _, hn, hc, h11 =>
    rw [p_e7]
    exact ⟨p_rfRule h hk ⟨0, by omega, rfl⟩ (fun z => absurd z (by decide)) (fun z => absurd z (by decide)), hK⟩
  | 8, _, hn, hc, h11 =>
    rw [p_e8]
    exact ⟨p_rfRule h hk ⟨1, by omega, rfl⟩ (fun z => absurd z (by decide)) (fun z => absurd z (by decide)), hK⟩
  | 9, _, hn, hc, h11 =>
    rw [p_e9]
    exact ⟨p_rfRule h hk ⟨4, by omega, rfl⟩ (fun _ => hn.2 rfl) (fun z => absurd z (by decide)), hK⟩
  | 10, _, hn, hc, h11 =>
    rw [p_e10]
    refine ⟨h, fun j hj => ?_⟩
    rcases Nat.lt_or_ge j d with q | q
    · exact p_rfEq (hK j q) (fun i hi => by dsimp only; unfold pKeep; rw [if_neg (by omega)])
    · obtain rfl : j = d := by dsimp only at hj; omega
      exact p_rfEq h (fun i hi => by dsimp only; unfold pKeep; rw [if_pos ⟨by omega, by omega⟩]; congr 1; omega)
  | 11, _, hn, hc, h11 =>
    rw [p_e11]
    refine ⟨p_rfEq (hK (d - 1) (by have := h11 rfl; omega)) (fun i hi => by dsimp only; unfold pBack; rw [if_pos hi]), fun j hj => hK j (by dsimp only at hj; omega)⟩
  | 12, _, hn, hc, h11 =>
    rw [p_e12]
    exact ⟨p_rfCfa h (Or.inr (Or.inl rfl)) (fun _ => ⟨k, hk, rfl⟩) (fun z => absurd z (by decide)), hK⟩
  | 13, _, hn, hc, h11 =>
    rw [p_e13]
    exact ⟨p_rfCfa h (Or.inr (Or.inl rfl)) (fun _ => ⟨k, hk, rfl⟩) (fun z => absurd z (by decide)), hK⟩
  | 14, _, hn, hc, h11 =>
    rw [p_e14]
    exact ⟨p_rfCfa h (Or.inr (Or.inl rfl)) (fun _ => p_toldR h) (fun z => absurd z (by decide)), hK⟩
  | 15, _, hn, hc, h11 =>
    rw [p_e15]
    exact ⟨p_rfCfa h (Or.inr (Or.inr rfl)) (fun z => absurd z (by decide)) (fun _ => hn.1 (Or.inl rfl)), hK⟩
  | 16, _, hn, hc, h11 =>
    rw [p_e16]
    exact ⟨p_rfRule h hk ⟨5, by omega, rfl⟩ (fun z => absurd z (by decide)) (fun _ => hn.1 (Or.inr (Or.inl rfl))), hK⟩
  | 17, _, hn, hc, h11 =>
    rw [p_e17]
    exact ⟨p_rfRule h hk ⟨2, by omega, rfl⟩ (fun z => absurd z (by decide)) (fun z => absurd z (by decide)), hK⟩
  | 18, _, hn, hc, h11 =>
    rw [p_e18]
    exact ⟨p_rfCfa h (Or.inr (Or.inl rfl)) (fun _ => ⟨k, hk, rfl⟩) (fun z => absurd z (by decide)), hK⟩
  | 19, _, hn, hc, h11 =>
    rw [p_e19]
    exact ⟨p_rfCfa h (Or.inr (Or.inl rfl)) (fun _ => p_toldR h) (fun z => absurd z (by decide)), hK⟩
  | 20, _, hn, hc, h11 =>
    rw [p_e20]
    exact ⟨p_rfRule h hk ⟨3, by omega, rfl⟩ (fun z => absurd z (by decide)) (fun z => absurd z (by decide)), hK⟩
  | 21, _, hn, hc, h11 =>
    rw [p_e21]
    exact ⟨p_rfRule h hk ⟨3, by omega, rfl⟩ (fun z => absurd z (by decide)) (fun z => absurd z (by decide)), hK⟩
  | 22, _, hn, hc, h11 =>
    rw [p_e22]
    exact ⟨p_rfRule h hk ⟨6, by omega, rfl⟩ (fun z => absurd z (by decide)) (fun _ => hn.1 (Or.inr (Or.inr rfl))), hK⟩
  | w + 23, hw, _, _, _ => exact absurd hw (by omega)
theorem p_fstep {mb bb : Nat → Int32} (hB : pB mb bb) {a L S e c d : Nat} (ha : a < L) (hL : L ≤ S) (hS : S ≤ 512) (he : e < 16) (hc : c < 16) (hd : d ≤ 4) (pl : Int32) (isC common code data row crow kept : Nat → Int32) (hce : common e = nI c) {op num bf : Int32} {k a1 : Nat} (hR : f_In_readFrom 0 0 0 0 (nI a) (nI L) 0 bb = some (1, op, nI k, num, bf, nI a1, 0)) (hk : k < 8) (hok : pOk (isC e) op d) (hn : pNum op num bf L) {rok ron ros cok con cos r0k r0n r0s r1k r1n r1s r2k r2n r2s r3k r3n r3s : Nat → Int32} (hr : pRow row rok ron ros) (hcr : op = 6 → pRow crow cok con cos) (hK : pKp kept d (pR4 r0k r1k r2k r3k) (pR4 r0n r1n r2n r3n) (pR4 r0s r1s r2s r3s)) (hf : pRf S row) (hcf : op = 6 → pRf S crow) (hKf : ∀ j, j < d → pRf S (fun i => kept (27 * j + i))) :
    ∃ (pl' : Int32) (row' kept' a' b' c' x0k x0n x0s x1k x1n x1s x2k x2n x2s x3k x3n x3s : Nat → Int32), f_Md_instruction (nI a) (nI L) 0 (nI d) pl mb isC common code data row crow kept (nI e) = some (nI a1, 0, nI (pD op d), pl', row', kept') ∧ f_Tr_apply (nI d) pl op (nI k) num bf rok ron ros cok con cos r0k r0n r0s r1k r1n r1s r2k r2n r2s r3k r3n r3s (code c) (data c) = some (nI (pD op d), pl', a', b', c', x0k, x0n, x0s, x1k, x1n, x1s, x2k, x2n, x2s, x3k, x3n, x3s) ∧ pRow row' a' b' c' ∧ pKp kept' (pD op d) (pR4 x0k x1k x2k x3k) (pR4 x0n x1n x2n x3n) (pR4 x0s x1s x2s x3s) ∧ pRf S row' ∧ (∀ j, j < pD op d → pRf S (fun i => kept' (27 * j + i))) ∧ (¬ isC e = 0 → pl' = pl) := by
  obtain ⟨w, hw, rfl⟩ := p_opOf hB ha (by omega) hR
  rcases p_ins hB ha (by omega) he hc hd pl isC common code data row crow kept hce 0 0 0 0 with ⟨op, k', num', bf', a1', d', pl', row', kept', i1, i2, i3, i4, i5, i6, i7, i8, i9⟩ | ⟨ok, op', q, t, u, i1, i2, i3⟩
  · rw [hR] at i7
    have j1 := Option.some.inj i7
    have e1 : nI w = op := congrArg (fun t => t.2.1) j1
    have e2 : nI k = nI k' := congrArg (fun t => t.2.2.1) j1
    have e3 : num = num' := congrArg (fun t => t.2.2.2.1) j1
    have e4 : bf = bf' := congrArg (fun t => t.2.2.2.2.1) j1
    have e5 : nI a1 = nI a1' := congrArg (fun t => t.2.2.2.2.2.1) j1
    have e6 := (nI_eq (by omega) (by omega)).mp e2
    subst e1 e3 e4 e6
    obtain ⟨a', b', c', x0k, x0n, x0s, x1k, x1n, x1s, x2k, x2n, x2s, x3k, x3n, x3s, g1, g2, g3⟩ := p_apply hr (nI w) num bf (code c) (data c) pl hcr hk hd hK hok.2.1 hok.2.2
    obtain ⟨f1, f2⟩ := p_effRf hw hk num bf (code c) (data c) pl row crow kept (S := S) ⟨fun z => by obtain ⟨x, m, y1, y2, y3⟩ := hn.1 z; exact ⟨x, m, y1, y2, by omega⟩, hn.2⟩ hf hcf hKf hok.2.2
    have hD := p_effD (nI w) k num bf (code c) (data c) d pl row crow kept
    have hpl : ¬ isC e = 0 → (pEff (nI w) k num bf (code c) (data c) d pl row crow kept).2.1 = pl := by
      intro hi
      have hno := hok.1.resolve_left hi
      unfold pEff
      by_cases z0 : nI w = 0
      · rw [if_pos z0]
      rw [if_neg z0, if_neg (fun z => hno (Or.inl z)), if_neg (fun z => hno (by rcases z with z | z | z <;> simp only [z, true_or, or_true]))]
      split
      · rfl
      · split
        · rfl
        · split <;> rfl
    rw [← i9] at g1 g2 g3 f1 f2 hD hpl
    dsimp only at g1 g2 g3 f1 f2 hD hpl
    subst hD
    rw [i8, ← e5]
    exact ⟨pl', row', kept', a', b', c', x0k, x0n, x0s, x1k, x1n, x1s, x2k, x2n, x2s, x3k, x3n, x3s, rfl, g1, g2, g3, f1, f2, hpl⟩
  · rw [hR] at i2
    have j1 := Option.some.inj i2
    have e0 : (1 : Int32) = ok := congrArg (fun t => t.1) j1
    have e1 : nI w = op' := congrArg (fun t => t.2.1) j1
    subst e0 e1
    rcases i1 with i1 | i1
    · exact absurd i1 (by decide)
    · exact absurd hok i1.2
