/-! PURE: the beginning of a row; the common entry of a frame entry; the heads -/
def pZ (row : Nat → Int32) (x : Nat) : Nat → Int32 := fun i => if i < x then 0 else row i
def pZ1 (row : Nat → Int32) (x : Nat) : Nat → Int32 := fun i => if i < x then 1 else row i
def pBeg (row : Nat → Int32) (r : Nat) : Nat → Int32 := pRule (pRule (pZ1 (pZ row 27) 8) 7 3 0 0) r 0 0 0
theorem p_begin23 (b kr pl : Int32) (common back row : Nat → Int32) {e c r : Nat} (he : e < 16) (hc : c < 16) (hr : r < 8) (hce : common e = nI c) (hb : back c = nI r) : ∀ (k n x : Nat), x + k = 8 → k < n → f_Md_begin_23 n b kr pl common back (pZ1 row x) (nI e) (nI x) = some (b, 0, 0, pRule (pRule (pZ1 row 8) 7 3 0 0) r 0 0 0) := by
  intro k
  induction k with
  | zero =>
    intro n x hx hn
    match n, hn with
    | n + 1, _ =>
      obtain rfl : x = 8 := by omega
      rw [f_Md_begin_23, if_pos (show (8 : Int32) ≤ nI 8 by decide), show (7 : Int32) = nI 7 from rfl, p_rule _ _ (by omega), Option.bind_some]
      dsimp only
      rw [if_neg (nI_in he (by omega)), nI_clamp (show e < 2 ^ 31 by omega), hce, if_neg (nI_in hc (by omega)), nI_clamp (show c < 2 ^ 31 by omega), hb, p_rule _ _ hr, Option.bind_some]
  | succ k ih =>
    intro n x hx hn
    match n, hn with
    | n + 1, hn =>
      rw [f_Md_begin_23, if_neg (show ¬ (8 : Int32) ≤ nI x from nI_ge (b := 8) (by omega) (by omega)), if_neg (nI_in (show x < 27 by omega) (by omega)), nI_clamp (show x < 2 ^ 31 by omega), nI_1]
      have e1 : upd (pZ1 row x) x 1 = pZ1 row (x + 1) := by
        funext i
        unfold upd pZ1
        by_cases h : i = x
        · rw [if_pos h, if_pos (by omega)]
        · rw [if_neg h]
          by_cases h2 : i < x
          · rw [if_pos h2, if_pos (by omega)]
          · rw [if_neg h2, if_neg (by omega)]
      rw [e1]
      exact ih n (x + 1) (by omega) (by omega)
theorem p_begin2 (b kr pl : Int32) (common back row : Nat → Int32) {e c r : Nat} (he : e < 16) (hc : c < 16) (hr : r < 8) (hce : common e = nI c) (hb : back c = nI r) : ∀ (k n x : Nat), x + k = 27 → k < n → f_Md_begin_2 n b kr pl common back (pZ row x) (nI e) (nI x) = some (b, 0, 0, pBeg row r) := by
  intro k
  induction k with
  | zero =>
    intro n x hx hn
    match n, hn with
    | n + 1, _ =>
      obtain rfl : x = 27 := by omega
      rw [f_Md_begin_2, if_pos (show (27 : Int32) ≤ nI 27 by decide)]
      have e0 : pZ1 (pZ row 27) 0 = pZ row 27 := by
        funext i
        unfold pZ1
        rw [if_neg (by omega)]
      have := p_begin23 b kr pl common back (pZ row 27) he hc hr hce hb 8 LF 0 (by omega) (by unfold LF; omega)
      rw [e0] at this
      exact this
  | succ k ih =>
    intro n x hx hn
    match n, hn with
    | n + 1, hn =>
      rw [f_Md_begin_2, if_neg (show ¬ (27 : Int32) ≤ nI x from nI_ge (b := 27) (by omega) (by omega)), if_neg (nI_in (show x < 27 by omega) (by omega)), nI_clamp (show x < 2 ^ 31 by omega), nI_1]
      have e1 : upd (pZ row x) x 0 = pZ row (x + 1) := by
        funext i
        unfold upd pZ
        by_cases h : i = x
        · rw [if_pos h, if_pos (by omega)]
        · rw [if_neg h]
          by_cases h2 : i < x
          · rw [if_pos h2, if_pos (by omega)]
          · rw [if_neg h2, if_neg (by omega)]
      rw [e1]
      exact ih n (x + 1) (by omega) (by omega)
theorem p_begin (b kr pl : Int32) (common back row : Nat → Int32) {e c r : Nat} (he : e < 16) (hc : c < 16) (hr : r < 8) (hce : common e = nI c) (hb : back c = nI r) : f_Md_begin b kr pl common back row (nI e) = some (b, 0, 0, pBeg row r) := by
  have e0 : pZ row 0 = row := by
    funext i
    unfold pZ
    rw [if_neg (by omega)]
  have := p_begin2 b kr pl common back row he hc hr hce hb 27 LF 0 (by omega) (by unfold LF; omega)
  rw [e0] at this
  exact this
theorem p_rowT {row tk tn ts uk un us : Nat → Int32} (h : pRow row tk tn ts) (e : ∀ i, i < 9 → uk i = tk i ∧ un i = tn i ∧ us i = ts i) : pRow row uk un us := by
  refine ⟨fun k hk => ?_, ?_, ?_, ?_⟩
  · rw [(e k (by omega)).1, (e k (by omega)).2.1, (e k (by omega)).2.2]; exact h.1 k hk
  · rw [(e 8 (by omega)).1]; exact h.2.1
  · rw [(e 8 (by omega)).2.1]; exact h.2.2.1
  · rw [(e 8 (by omega)).2.2]; exact h.2.2.2
theorem p_resetL {r : Nat} (hr : r < 8) : ∀ (k n x : Nat) (tk tn ts : Nat → Int32), x + k = 8 → k < n → (∀ i, i < x → tk i = 1 ∧ tn i = 0 ∧ ts i = 0) → ∃ uk un us : Nat → Int32, f_Ro_reset_2 n tk tn ts (nI r) (nI x) = some (upd (upd (upd uk 7 3) r 0) 8 0, upd (upd (upd un 7 0) r 0) 8 0, upd (upd (upd us 7 0) r 0) 8 0) ∧ ∀ i, i < 8 → uk i = 1 ∧ un i = 0 ∧ us i = 0 := by
  intro k
  induction k with
  | zero =>
    intro n x tk tn ts hx hn hI
    match n, hn with
    | n + 1, _ =>
      obtain rfl : x = 8 := by omega
      rw [f_Ro_reset_2, if_pos (show (8 : Int32) ≤ nI 8 by decide), show (7 : Int32) = nI 7 from rfl, p_put (by omega), Option.bind_some, p_put (by omega), Option.bind_some, show (8 : Int32) = nI 8 from rfl, p_put (by omega), Option.bind_some]
      exact ⟨tk, tn, ts, rfl, hI⟩
  | succ k ih =>
    intro n x tk tn ts hx hn hI
    match n, hn with
    | n + 1, hn =>
      rw [f_Ro_reset_2, if_neg (show ¬ (8 : Int32) ≤ nI x from nI_ge (b := 8) (by omega) (by omega)), p_put (by omega), Option.bind_some, nI_1]
      refine ih n (x + 1) _ _ _ (by omega) (by omega) (fun i hi => ?_)
      by_cases h : i = x
      · subst h; exact ⟨upd_s _ _ _, upd_s _ _ _, upd_s _ _ _⟩
      · dsimp only
        rw [upd_n _ h, upd_n _ h, upd_n _ h]
        exact hI i (by omega)
theorem p_reset {r : Nat} (hr : r < 8) (row tk tn ts : Nat → Int32) : ∃ a b c : Nat → Int32, f_Ro_reset tk tn ts (nI r) = some (a, b, c) ∧ pRow (pBeg row r) a b c := by
  obtain ⟨uk, un, us, g1, g2⟩ := p_resetL hr 8 LF 0 tk tn ts (by omega) (by unfold LF; omega) (fun i hi => absurd hi (by omega))
  refine ⟨_, _, _, g1, ?_⟩
  have h0 : pRow (pZ1 (pZ row 27) 8) (upd uk 8 0) (upd un 8 0) (upd us 8 0) := by
    refine ⟨fun k hk => ⟨?_, ?_, ?_⟩, ?_, ?_, ?_⟩
    · rw [upd_n _ (by omega), (g2 k hk).1]; unfold pZ1; rw [if_pos hk]
    · rw [upd_n _ (by omega), (g2 k hk).2.1]; unfold pZ1 pZ; rw [if_neg (by omega), if_pos (by omega)]
    · rw [upd_n _ (by omega), (g2 k hk).2.2]; unfold pZ1 pZ; rw [if_neg (by omega), if_pos (by omega)]
    · rw [upd_s]; rfl
    · rw [upd_s]; rfl
    · rw [upd_s]; rfl
  refine p_rowT (p_rowRule (p_rowRule h0 (show 7 < 8 by omega) 3 0 0) hr 0 0 0) (fun i hi => ?_)
  unfold upd
  by_cases h8 : i = 8
  · subst h8
    rw [if_pos rfl, if_neg (by omega), if_neg (by omega), if_pos rfl, if_pos rfl, if_neg (by omega), if_neg (by omega), if_pos rfl, if_pos rfl, if_neg (by omega), if_neg (by omega), if_pos rfl]
    exact ⟨rfl, rfl, rfl⟩
  · rw [if_neg h8, if_neg h8, if_neg h8, if_neg h8, if_neg h8, if_neg h8]
    exact ⟨rfl, rfl, rfl⟩
/-- the class looks for the common entry -/
theorem p_cAt {fr beg : Nat → Int32} {e : Nat} (he : e ≤ 16) (id : Int32) : ∀ (k m x : Nat), x + k = e → k < m → ((∀ i, x ≤ i → i < e → ¬ (fr i = 0 ∧ beg i = id)) → f_La_commonAt_2 m (nI e) fr beg id (nI x) = some (-1)) ∧ (∀ j, x ≤ j → j < e → fr j = 0 → beg j = id → (∀ i, x ≤ i → i < j → ¬ (fr i = 0 ∧ beg i = id)) → f_La_commonAt_2 m (nI e) fr beg id (nI x) = some (nI j)) := by
  intro k
  induction k with
  | zero =>
    intro m x hx hm
    match m, hm with
    | m + 1, _ =>
      refine ⟨fun _ => ?_, fun j h1 h2 => absurd h2 (by omega)⟩
      rw [f_La_commonAt_2, if_pos (nI_le (show e ≤ x by omega) (by omega))]
  | succ k ih =>
    intro m x hx hm
    match m, hm with
    | m + 1, hm =>
      have i2 := ih m (x + 1) (by omega) (by omega)
      rw [f_La_commonAt_2, if_neg (nI_ge (show x < e by omega) (by omega)), if_neg (nI_in (show x < 16 by omega) (by omega)), if_neg (nI_in (show x < 16 by omega) (by omega)), nI_clamp (show x < 2 ^ 31 by omega), nI_1]
      refine ⟨fun h => ?_, fun j h1 h2 h3 h4 h5 => ?_⟩
      · have hx1 := h x (Nat.le_refl _) (by omega)
        have g := i2.1 (fun i a b => h i (by omega) b)
        by_cases q : beg x = id
        · rw [if_pos q, if_neg (fun z => hx1 ⟨z, q⟩)]; exact g
        · rw [if_neg q]; exact g
      · by_cases hj : j = x
        · subst hj
          rw [if_pos h4, if_pos h3]
        · have hx1 := h5 x (Nat.le_refl _) (by omega)
          have g := i2.2 j (by omega) h2 h3 h4 (fun i a b => h5 i (by omega) b)
          by_cases q : beg x = id
          · rw [if_pos q, if_neg (fun z => hx1 ⟨z, q⟩)]; exact g
          · rw [if_neg q]; exact g
/-- the model looks for it -/
theorem p_56 (te t L b kr pl : Int32) (mb begins isC code data back first range frm to row crow kept : Nat → Int32) (x1 id : Int32) {e : Nat} (he : e < 16) : ∀ (k m x : Nat) (common : Nat → Int32), x + k = e → ((∀ i, x ≤ i → i < e → ¬ (¬ isC i = 0 ∧ begins i = id)) → f_Md_entry_56 (m + k) te t L b kr pl mb begins isC common code data back first range frm to row crow kept x1 (nI e) id (nI x) = f_Md_entry_56 m te t L b kr pl mb begins isC common code data back first range frm to row crow kept x1 (nI e) id (nI e)) ∧ (∀ j, x ≤ j → j < e → ¬ isC j = 0 → begins j = id → (∀ i, x ≤ i → i < e → i ≠ j → ¬ (¬ isC i = 0 ∧ begins i = id)) → f_Md_entry_56 (m + k) te t L b kr pl mb begins isC common code data back first range frm to row crow kept x1 (nI e) id (nI x) = f_Md_entry_56 m te t L b kr pl mb begins isC (upd common e (nI j)) code data back first range frm to row crow kept x1 (nI e) id (nI e)) := by
  intro k
  induction k with
  | zero =>
    intro m x common hx
    obtain rfl : x = e := by omega
    exact ⟨fun _ => rfl, fun j h1 h2 => absurd h2 (by omega)⟩
  | succ k ih =>
    intro m x common hx
    have e1 : m + (k + 1) = (m + k) + 1 := by omega
    rw [e1, f_Md_entry_56, if_neg (nI_ge (show x < e by omega) (by omega)), if_neg (nI_in (show x < 16 by omega) (by omega)), if_neg (nI_in (show x < 16 by omega) (by omega)), if_neg (nI_in he (by omega)), nI_clamp (show x < 2 ^ 31 by omega), nI_clamp (show e < 2 ^ 31 by omega), nI_1]
    refine ⟨fun h => ?_, fun j h1 h2 h3 h4 h5 => ?_⟩
    · have hx1 := h x (Nat.le_refl _) (by omega)
      have g := (ih m (x + 1) common (by omega)).1 (fun i a b => h i (by omega) b)
      by_cases q : isC x = 0
      · rw [if_pos q]; exact g
      · rw [if_neg q, if_neg (fun z => hx1 ⟨q, z⟩)]; exact g
    · by_cases hj : j = x
      · subst hj
        rw [if_neg h3, if_pos h4]
        exact (ih m (j + 1) _ (by omega)).1 (fun i a b => h5 i (by omega) b (by omega))
      · have hx1 := h5 x (Nat.le_refl _) (by omega) (fun z => hj z.symm)
        have g := (ih m (x + 1) common (by omega)).2 j (by omega) h2 h3 h4 (fun i a b => h5 i (by omega) b)
        by_cases q : isC x = 0
        · rw [if_pos q]; exact g
        · rw [if_neg q, if_neg (fun z => hx1 ⟨q, z⟩)]; exact g
/-- the head of a common entry -/
theorem p_cHead {mb bb : Nat → Int32} (hB : pB mb bb) {a L e : Nat} (haL : a ≤ L) (hL : L ≤ 512) (he : e < 16) (ins cod dat rr code data back : Nat → Int32) :
    (∃ f, f ≤ 512 ∧ ∃ q u, f_La_commonFault bb (nI a) (nI L) 0 ins cod dat rr e = some (nI f, q) ∧ f_Md_commonHead (nI a) (nI L) 0 mb code data back (nI e) = some (nI f, u)) ∨
    (∃ (a' r : Nat) (cv dv : Int32), a ≤ a' ∧ a' ≤ L ∧ r < 8 ∧ f_La_commonFault bb (nI a) (nI L) 0 ins cod dat rr e = some (-1, nI a', 0, upd ins e (nI a'), upd cod e cv, upd dat e dv, upd rr e (nI r)) ∧ f_Md_commonHead (nI a) (nI L) 0 mb code data back (nI e) = some (-1, nI a', 0, upd code e cv, upd data e dv, upd back e (nI r))) := by
  unfold f_La_commonFault f_Md_commonHead
  rcases Nat.lt_or_ge a L with ha | ha
  case inr =>
    rw [show (1 : Int32) = nI 1 from rfl, p_uns hB haL hL (by omega), p_Muns mb 0 haL hL (by omega), if_neg (by omega), Option.bind_some, Option.bind_some]
    dsimp only
    rw [if_neg (by decide), if_neg (by decide)]
    exact Or.inl ⟨a, by omega, _, _, rfl, rfl⟩
  rw [p_Rbyte1 hB ha hL, p_byte1 mb 0 ha hL, Option.bind_some, Option.bind_some]
  dsimp only
  by_cases h1 : mb a = 1
  · rw [if_pos h1, if_pos rfl, if_pos h1, p_uleb hB (show a + 1 ≤ L by omega) hL]
    obtain ⟨w, a1, b1, g1, g2, g3, g4⟩ := p_Mleb mb (show a + 1 ≤ L by omega) hL 0 0
    rw [g1, Option.bind_some, Option.bind_some]
    dsimp only
    rw [if_neg (nI_in he (by omega)), nI_clamp (show e < 2 ^ 31 by omega)]
    by_cases hb1 : b1 = 0
    · subst hb1
      rw [if_pos rfl, if_pos rfl, p_sleb hB g3 hL]
      obtain ⟨w2, a2, b2, k1, k2, k3, k4⟩ := p_Mleb mb g3 hL 1 0
      rw [k1, Option.bind_some, Option.bind_some]
      dsimp only
      have hee : ¬ (nI e < 0 ∨ 16 ≤ e) := by have := nI_in he (show 16 < 2 ^ 31 by omega); rw [nI_clamp (show e < 2 ^ 31 by omega)] at this; exact this
      rw [if_neg hee]
      by_cases hb2 : b2 = 0
      · subst hb2
        rw [if_pos rfl, if_pos rfl, p_uleb hB k3 hL]
        obtain ⟨w3, a3, b3, l1, l2, l3, l4⟩ := p_Mleb mb k3 hL 0 0
        rw [l1, Option.bind_some]
        dsimp only
        rw [upd_s]
        rcases p_reg2 mb k3 hL l1 with ⟨m1, ⟨r, hr, m2⟩, m3⟩ | ⟨m1, m3⟩
        · rw [m3, Option.bind_some]
          dsimp only
          subst m1
          subst m2
          rw [if_neg hee, if_pos rfl, if_pos rfl, if_neg (nI_pos (by omega)), if_pos (show nI r < (8 : Int32) from nI_lt (b := 8) hr (by omega))]
          exact Or.inr ⟨a3, r, w, w2, by omega, l3, hr, rfl, rfl⟩
        · rw [m3, Option.bind_some]
          dsimp only
          rw [if_neg hee, if_neg (show ¬ (1 : Int32) = 0 by decide)]
          refine Or.inl ⟨a2, by omega, (nI a3, b3, ins, upd cod e w, upd dat e w2, upd rr e w3), _, ?_, rfl⟩
          by_cases hb3 : b3 = 0
          · rw [if_pos hb3]
            rcases p_in8 w3 with ⟨k, hk, z⟩ | ⟨z | ⟨z1, z2⟩, -⟩
            · rcases m1 with m1 | m1
              · exact absurd hb3 m1
              · exact absurd ⟨k, hk, z⟩ m1
            · rw [if_pos z]
            · rw [if_neg z1, if_neg (fun z => by rw [Int32.lt_iff_toInt_lt] at z; rw [Int32.le_iff_toInt_le] at z2; omega)]
          · rw [if_neg hb3]
      · rw [if_neg hb2, if_neg hb2]
        exact Or.inl ⟨a1, by omega, _, _, rfl, rfl⟩
    · rw [if_neg hb1, if_neg hb1]
      exact Or.inl ⟨a + 1, by omega, _, _, rfl, rfl⟩
  · rw [if_neg h1, if_pos rfl, if_neg h1]
    exact Or.inl ⟨a, by omega, _, _, rfl, rfl⟩
/-- the head of a frame entry -/
theorem p_fHead {mb bb : Nat → Int32} (hB : pB mb bb) {a L e : Nat} (ha : a ≤ L) (hL : L ≤ 512) (he : e < 16) (ins fi ra first range : Nat → Int32) :
    (∃ f, f ≤ 512 ∧ ∃ q u, f_La_frameFault bb (nI a) (nI L) 0 ins fi ra e = some (nI f, q) ∧ f_Md_frameHead (nI a) (nI L) 0 mb first range (nI e) = some (nI f, u)) ∨
    (∃ (a' : Nat) (fv rv : Int32), a ≤ a' ∧ a' ≤ L ∧ f_La_frameFault bb (nI a) (nI L) 0 ins fi ra e = some (-1, nI a', 0, upd ins e (nI a'), upd fi e fv, upd ra e rv) ∧ f_Md_frameHead (nI a) (nI L) 0 mb first range (nI e) = some (-1, nI a', 0, upd first e fv, upd range e rv)) := by
  unfold f_La_frameFault f_Md_frameHead
  have hee : ¬ (nI e < 0 ∨ 16 ≤ e) := by have := nI_in he (show 16 < 2 ^ 31 by omega); rw [nI_clamp (show e < 2 ^ 31 by omega)] at this; exact this
  rw [show (4 : Int32) = nI 4 from rfl, p_uns hB ha hL (by omega), p_Muns mb 0 ha hL (by omega), nI_clamp (show e < 2 ^ 31 by omega)]
  by_cases h1 : a + 4 ≤ L
  · rw [if_pos h1, Option.bind_some, Option.bind_some]
    dsimp only
    rw [upd_s, upd_s, if_pos rfl, if_neg hee, if_pos rfl, if_neg hee]
    by_cases h2 : 0 ≤ pU mb a 4
    · rw [if_pos h2, if_pos h2, p_uns hB h1 hL (by omega), p_Muns mb 0 h1 hL (by omega)]
      by_cases h3 : a + 4 + 4 ≤ L
      · rw [if_pos h3, Option.bind_some, Option.bind_some]
        dsimp only
        rw [upd_s, upd_s, if_pos rfl, if_neg hee, if_pos rfl, if_neg hee]
        by_cases h4 : 0 ≤ pU mb (a + 4) 4
        · rw [if_pos h4, if_pos h4]
          exact Or.inr ⟨a + 4 + 4, _, _, by omega, h3, rfl, rfl⟩
        · rw [if_neg h4, if_neg h4]
          exact Or.inl ⟨a + 4, by omega, _, _, rfl, rfl⟩
      · rw [if_neg h3, Option.bind_some, Option.bind_some]
        dsimp only
        rw [if_neg (by decide), if_neg hee, if_neg (by decide)]
        by_cases h5 : a + 4 < 512
        · exact Or.inl ⟨a + 4, by omega, _, _, rfl, rfl⟩
        · exact Or.inl ⟨a + 4, by omega, _, _, rfl, rfl⟩
    · rw [if_neg h2, if_neg h2]
      exact Or.inl ⟨a, by omega, _, _, rfl, rfl⟩
  · rw [if_neg h1, Option.bind_some, Option.bind_some]
    dsimp only
    rw [if_neg (by decide), if_neg hee, if_neg (by decide)]
    exact Or.inl ⟨a, by omega, _, _, rfl, rfl⟩
