/-! PURE: the row at a place -/
theorem p_comm {mb bb : Nat → Int32} (hB : pB mb bb) {L S c : Nat} (hL : L ≤ S) (hS : S ≤ 512) (hc : c < 16) (isC common code data back first frm to crow : Nat → Int32) (hcc : common c = nI c) (hi : ¬ isC c = 0) (cok con cos ins ends cod dat : Nat → Int32) {j1 j2 : Nat} (hcod : cod j2 = code c) (hdat : dat j2 = data c) (pc x1 x2 : Int32) : ∀ (j a n m x : Nat) (o r nn b : Int32) (row kept rok ron ros r0k r0n r0s r1k r1n r1s r2k r2n r2s r3k r3n r3s : Nat → Int32), pRun bb L (isC c) j a 0 → a ≤ L → j < n → j < m → x ≤ a → pRow row rok ron ros → pRf S row →
    ∃ (o' r' nn' b' : Int32) (row' kept' rok' ron' ros' x0k x0n x0s x1k x1n x1s x2k x2n x2s x3k x3n x3s : Nat → Int32), f_Tr_follow_18 n (nI 0) 0 (nI a) (nI L) 0 bb o r nn b rok ron ros cok con cos r0k r0n r0s r1k r1n r1s r2k r2n r2s r3k r3n r3s ins ends cod dat j1 j2 pc (nI x) = some (nI 0, 0, nI L, nI L, 0, o', r', nn', b', rok', ron', ros', x0k, x0n, x0s, x1k, x1n, x1s, x2k, x2n, x2s, x3k, x3n, x3s) ∧ f_Md_rowAt_37 m (nI a) (nI L) 0 (nI 0) 0 mb isC common code data back first frm to row crow kept x1 x2 (nI c) = f_Md_rowAt_59 LF (nI L) (nI L) 0 (nI 0) 0 mb isC common code data back first frm to row' crow kept' x1 x2 (nI c) 0 ∧ pRow row' rok' ron' ros' ∧ pRf S row' := by
  have hdone : ∀ (a n m x : Nat) (o r nn b : Int32) (row kept rok ron ros r0k r0n r0s r1k r1n r1s r2k r2n r2s r3k r3n r3s : Nat → Int32), a = L → pRow row rok ron ros → pRf S row → ∃ (o' r' nn' b' : Int32) (row' kept' rok' ron' ros' x0k x0n x0s x1k x1n x1s x2k x2n x2s x3k x3n x3s : Nat → Int32), f_Tr_follow_18 (n + 1) (nI 0) 0 (nI a) (nI L) 0 bb o r nn b rok ron ros cok con cos r0k r0n r0s r1k r1n r1s r2k r2n r2s r3k r3n r3s ins ends cod dat j1 j2 pc (nI x) = some (nI 0, 0, nI L, nI L, 0, o', r', nn', b', rok', ron', ros', x0k, x0n, x0s, x1k, x1n, x1s, x2k, x2n, x2s, x3k, x3n, x3s) ∧ f_Md_rowAt_37 (m + 1) (nI a) (nI L) 0 (nI 0) 0 mb isC common code data back first frm to row crow kept x1 x2 (nI c) = f_Md_rowAt_59 LF (nI L) (nI L) 0 (nI 0) 0 mb isC common code data back first frm to row' crow kept' x1 x2 (nI c) 0 ∧ pRow row' rok' ron' ros' ∧ pRf S row' := by
    intro a n m x o r nn b row kept rok ron ros r0k r0n r0s r1k r1n r1s r2k r2n r2s r3k r3n r3s ha h1 h2
    subst ha
    refine ⟨o, r, nn, b, row, kept, rok, ron, ros, r0k, r0n, r0s, r1k, r1n, r1s, r2k, r2n, r2s, r3k, r3n, r3s, ?_, ?_, h1, h2⟩
    · rw [f_Tr_follow_18, if_pos (nI_le (Nat.le_refl a) (by omega))]
      split <;> rfl
    · rw [f_Md_rowAt_37, if_pos (nI_le (Nat.le_refl a) (by omega))]
  intro j
  induction j with
  | zero =>
    intro a n m x o r nn b row kept rok ron ros r0k r0n r0s r1k r1n r1s r2k r2n r2s r3k r3n r3s h0 h1 h2 h3 h4 h5 h6
    match n, m, h2, h3 with
    | n + 1, m + 1, _, _ => exact hdone a n m x o r nn b row kept rok ron ros r0k r0n r0s r1k r1n r1s r2k r2n r2s r3k r3n r3s h0 h5 h6
  | succ j ih =>
    intro a n m x o r nn b row kept rok ron ros r0k r0n r0s r1k r1n r1s r2k r2n r2s r3k r3n r3s h0 h1 h2 h3 h4 h5 h6
    match n, m, h2, h3 with
    | n + 1, m + 1, h2, h3 =>
      rcases h0 with h0 | ⟨ha, hd, op, k, num, bf, a1, i1, i2, i3, i4, i5, i6, i7, i8⟩
      · exact hdone a n m x o r nn b row kept rok ron ros r0k r0n r0s r1k r1n r1s r2k r2n r2s r3k r3n r3s h0 h5 h6
      · have hno := i5.1.resolve_left hi
        have hD : pD op 0 = 0 := by
          unfold pD
          rw [if_neg (fun z => hno (by simp only [z, true_or, or_true])), if_neg (fun z => hno (by simp only [z, true_or, or_true]))]
        have h6o : ¬ op = 6 := fun z => hno (by simp only [z, true_or, or_true])
        obtain ⟨pl', row', kept', a', b', c', x0k, x0n, x0s, x1k, x1n, x1s, x2k, x2n, x2s, x3k, x3n, x3s, g1, g2, g3, g4, g5, g6, g7⟩ := p_fstep hB (d := 0) ha hL hS hc hc (by omega) 0 isC common code data row crow kept hcc i7 i1 i5 i6 (cok := cok) (con := con) (cos := cos) (r0k := r0k) (r0n := r0n) (r0s := r0s) (r1k := r1k) (r1n := r1n) (r1s := r1s) (r2k := r2k) (r2n := r2n) (r2s := r2s) (r3k := r3k) (r3n := r3n) (r3s := r3s) h5 (fun z => absurd z h6o) (fun i hi => absurd hi (by omega)) h6 (fun z => absurd z h6o) (fun i hi => absurd hi (by omega))
        obtain rfl := g7 hi
        rw [hD] at g1 g2 i8
        obtain ⟨v, hv1, hv2⟩ := p_cmp0 pc
        have hC : f_Tr_follow_18 (n + 1) (nI 0) 0 (nI a) (nI L) 0 bb o r nn b rok ron ros cok con cos r0k r0n r0s r1k r1n r1s r2k r2n r2s r3k r3n r3s ins ends cod dat j1 j2 pc (nI x) = f_Tr_follow_18 n (nI 0) 0 (nI a1) (nI L) 0 bb op (nI k) num bf a' b' c' cok con cos x0k x0n x0s x1k x1n x1s x2k x2n x2s x3k x3n x3s ins ends cod dat j1 j2 pc (nI (x + 1)) := by
          rw [f_Tr_follow_18, if_neg (show ¬ (512 : Int32) ≤ nI x from nI_ge (b := 512) (by omega) (by omega)), if_neg (nI_ge ha (by omega)), hv1, Option.bind_some, if_neg hv2, p_rf0, i7, Option.bind_some]
          dsimp only
          rw [if_neg (by decide), hcod, hdat, g2, Option.bind_some, nI_1]
        have hM : f_Md_rowAt_37 (m + 1) (nI a) (nI L) 0 (nI 0) 0 mb isC common code data back first frm to row crow kept x1 x2 (nI c) = f_Md_rowAt_37 m (nI a1) (nI L) 0 (nI 0) 0 mb isC common code data back first frm to row' crow kept' x1 x2 (nI c) := by
          rw [f_Md_rowAt_37, if_neg (nI_ge ha (by omega)), g1, Option.bind_some]
        rw [hC, hM]
        exact ih a1 n m (x + 1) op (nI k) num bf row' kept' a' b' c' x0k x0n x0s x1k x1n x1s x2k x2n x2s x3k x3n x3s i8 i3 (by omega) (by omega) (by omega) g3 g5
theorem p_frame {mb bb : Nat → Int32} (hB : pB mb bb) {L S e c : Nat} (hL : L ≤ S) (hS : S ≤ 512) (he : e < 16) (hc : c < 16) (isC common code data back first frm to crow : Nat → Int32) (hce : common e = nI c) (cok con cos ins ends cod dat : Nat → Int32) {j1 j2 : Nat} (hcod : cod j2 = code c) (hdat : dat j2 = data c) (hcr : pRow crow cok con cos) (hcf : pRf S crow) (pc x3 x4 : Int32) : ∀ (j a d n m x : Nat) (pl o r nn b : Int32) (row kept rok ron ros r0k r0n r0s r1k r1n r1s r2k r2n r2s r3k r3n r3s : Nat → Int32), pRun bb L (isC e) j a d → a ≤ L → j < n → j < m → x ≤ a → pRow row rok ron ros → pKp kept d (pR4 r0k r1k r2k r3k) (pR4 r0n r1n r2n r3n) (pR4 r0s r1s r2s r3s) → pRf S row → (∀ i, i < d → pRf S (fun z => kept (27 * i + z))) →
    ∃ (v1 v2 v3 v4 v5 o' r' nn' b' u1 u2 u3 u4 u5 : Int32) (row' kept' rok' ron' ros' x0k x0n x0s x1k x1n x1s x2k x2n x2s x3k x3n x3s : Nat → Int32), f_Tr_follow_18 n (nI d) pl (nI a) (nI L) 0 bb o r nn b rok ron ros cok con cos r0k r0n r0s r1k r1n r1s r2k r2n r2s r3k r3n r3s ins ends cod dat j1 j2 pc (nI x) = some (v1, v2, v3, v4, v5, o', r', nn', b', rok', ron', ros', x0k, x0n, x0s, x1k, x1n, x1s, x2k, x2n, x2s, x3k, x3n, x3s) ∧ f_Md_rowAt_116 m (nI a) (nI L) 0 (nI d) pl mb isC common code data back first frm to row crow kept (nI e) pc x3 x4 = some (u1, u2, u3, u4, u5, row', crow, kept') ∧ pRow row' rok' ron' ros' ∧ pRf S row' := by
  have hdone : ∀ (a d n m x : Nat) (pl o r nn b : Int32) (row kept rok ron ros r0k r0n r0s r1k r1n r1s r2k r2n r2s r3k r3n r3s : Nat → Int32), a = L → pRow row rok ron ros → pRf S row → ∃ (v1 v2 v3 v4 v5 o' r' nn' b' u1 u2 u3 u4 u5 : Int32) (row' kept' rok' ron' ros' x0k x0n x0s x1k x1n x1s x2k x2n x2s x3k x3n x3s : Nat → Int32), f_Tr_follow_18 (n + 1) (nI d) pl (nI a) (nI L) 0 bb o r nn b rok ron ros cok con cos r0k r0n r0s r1k r1n r1s r2k r2n r2s r3k r3n r3s ins ends cod dat j1 j2 pc (nI x) = some (v1, v2, v3, v4, v5, o', r', nn', b', rok', ron', ros', x0k, x0n, x0s, x1k, x1n, x1s, x2k, x2n, x2s, x3k, x3n, x3s) ∧ f_Md_rowAt_116 (m + 1) (nI a) (nI L) 0 (nI d) pl mb isC common code data back first frm to row crow kept (nI e) pc x3 x4 = some (u1, u2, u3, u4, u5, row', crow, kept') ∧ pRow row' rok' ron' ros' ∧ pRf S row' := by
    intro a d n m x pl o r nn b row kept rok ron ros r0k r0n r0s r1k r1n r1s r2k r2n r2s r3k r3n r3s ha h1 h2
    subst ha
    refine ⟨nI d, pl, nI a, nI a, 0, o, r, nn, b, nI a, nI a, 0, nI d, pl, row, kept, rok, ron, ros, r0k, r0n, r0s, r1k, r1n, r1s, r2k, r2n, r2s, r3k, r3n, r3s, ?_, ?_, h1, h2⟩
    rotate_left
    · rw [f_Md_rowAt_116, if_pos (nI_le (Nat.le_refl a) (by omega))]
    · rw [f_Tr_follow_18, if_pos (nI_le (Nat.le_refl a) (by omega))]
      split <;> rfl
  intro j
  induction j with
  | zero =>
    intro a d n m x pl o r nn b row kept rok ron ros r0k r0n r0s r1k r1n r1s r2k r2n r2s r3k r3n r3s h0 h1 h2 h3 h4 h5 h6 h7 h8
    match n, m, h2, h3 with
    | n + 1, m + 1, _, _ => exact hdone a d n m x pl o r nn b row kept rok ron ros r0k r0n r0s r1k r1n r1s r2k r2n r2s r3k r3n r3s h0 h5 h7
  | succ j ih =>
    intro a d n m x pl o r nn b row kept rok ron ros r0k r0n r0s r1k r1n r1s r2k r2n r2s r3k r3n r3s h0 h1 h2 h3 h4 h5 h6 h7 h8
    match n, m, h2, h3 with
    | n + 1, m + 1, h2, h3 =>
      rcases h0 with h0 | ⟨ha, hd, op, k, num, bf, a1, i1, i2, i3, i4, i5, i6, i7, i8⟩
      · exact hdone a d n m x pl o r nn b row kept rok ron ros r0k r0n r0s r1k r1n r1s r2k r2n r2s r3k r3n r3s h0 h5 h7
      · obtain ⟨pl', row', kept', a', b', c', x0k, x0n, x0s, x1k, x1n, x1s, x2k, x2n, x2s, x3k, x3n, x3s, g1, g2, g3, g4, g5, g6, g7⟩ := p_fstep hB ha hL hS he hc hd pl isC common code data row crow kept hce i7 i1 i5 i6 h5 (fun _ => hcr) h6 h7 (fun _ => hcf) h8
        obtain ⟨v, hv1, hv2⟩ := p_cmpU pl pc
        by_cases hv : 0 < v
        · have hC : f_Tr_follow_18 (n + 1) (nI d) pl (nI a) (nI L) 0 bb o r nn b rok ron ros cok con cos r0k r0n r0s r1k r1n r1s r2k r2n r2s r3k r3n r3s ins ends cod dat j1 j2 pc (nI x) = some (nI d, pl, nI a, nI L, 0, o, r, nn, b, rok, ron, ros, r0k, r0n, r0s, r1k, r1n, r1s, r2k, r2n, r2s, r3k, r3n, r3s) := by
            rw [f_Tr_follow_18, if_neg (show ¬ (512 : Int32) ≤ nI x from nI_ge (b := 512) (by omega) (by omega)), if_neg (nI_ge ha (by omega)), hv1, Option.bind_some, if_pos hv]
          have hM : f_Md_rowAt_116 (m + 1) (nI a) (nI L) 0 (nI d) pl mb isC common code data back first frm to row crow kept (nI e) pc x3 x4 = some (nI a, nI L, 0, nI d, pl, row, crow, kept) := by
            rw [f_Md_rowAt_116, if_neg (nI_ge ha (by omega)), if_pos (hv2.mp hv)]
          exact ⟨_, _, _, _, _, _, _, _, _, _, _, _, _, _, _, _, _, _, _, _, _, _, _, _, _, _, _, _, _, _, _, hC, hM, h5, h7⟩
        · have hC : f_Tr_follow_18 (n + 1) (nI d) pl (nI a) (nI L) 0 bb o r nn b rok ron ros cok con cos r0k r0n r0s r1k r1n r1s r2k r2n r2s r3k r3n r3s ins ends cod dat j1 j2 pc (nI x) = f_Tr_follow_18 n (nI (pD op d)) pl' (nI a1) (nI L) 0 bb op (nI k) num bf a' b' c' cok con cos x0k x0n x0s x1k x1n x1s x2k x2n x2s x3k x3n x3s ins ends cod dat j1 j2 pc (nI (x + 1)) := by
            rw [f_Tr_follow_18, if_neg (show ¬ (512 : Int32) ≤ nI x from nI_ge (b := 512) (by omega) (by omega)), if_neg (nI_ge ha (by omega)), hv1, Option.bind_some, if_neg hv, p_rf0, i7, Option.bind_some]
            dsimp only
            rw [if_neg (by decide), hcod, hdat, g2, Option.bind_some, nI_1]
          have hM : f_Md_rowAt_116 (m + 1) (nI a) (nI L) 0 (nI d) pl mb isC common code data back first frm to row crow kept (nI e) pc x3 x4 = f_Md_rowAt_116 m (nI a1) (nI L) 0 (nI (pD op d)) pl' mb isC common code data back first frm to row' crow kept' (nI e) pc x3 x4 := by
            rw [f_Md_rowAt_116, if_neg (nI_ge ha (by omega)), if_neg (fun z => hv (hv2.mpr z)), g1, Option.bind_some]
          rw [hC, hM]
          exact ih a1 (pD op d) n m (x + 1) pl' op (nI k) num bf row' kept' a' b' c' x0k x0n x0s x1k x1n x1s x2k x2n x2s x3k x3n x3s i8 i3 (by omega) (by omega) (by omega) g3 g4 g5 g6
def pCp (row crow : Nat → Int32) (x : Nat) : Nat → Int32 := fun i => if i < x then row i else crow i
theorem p_59 (t l b kr pl : Int32) (mb isC common code data back first frm to row crow kept : Nat → Int32) {e : Nat} (he : e < 16) (pc x3 : Int32) : ∀ (k n x : Nat), x + k = 27 → k < n → f_Md_rowAt_59 n t l b kr pl mb isC common code data back first frm to row (pCp row crow x) kept (nI e) pc x3 (nI x) = f_Md_rowAt_116 LF (frm e) (to e) b kr (first e) mb isC common code data back first frm to row (pCp row crow 27) kept (nI e) pc x3 (nI 27) := by
  intro k
  induction k with
  | zero =>
    intro n x hx hn
    match n, hn with
    | n + 1, _ =>
      obtain rfl : x = 27 := by omega
      rw [f_Md_rowAt_59, if_pos (show (27 : Int32) ≤ nI 27 by decide), if_neg (nI_in he (by omega)), if_neg (nI_in he (by omega)), if_neg (nI_in he (by omega)), nI_clamp (show e < 2 ^ 31 by omega)]
  | succ k ih =>
    intro n x hx hn
    match n, hn with
    | n + 1, hn =>
      rw [f_Md_rowAt_59, if_neg (show ¬ (27 : Int32) ≤ nI x from nI_ge (b := 27) (by omega) (by omega)), if_neg (nI_in (show x < 27 by omega) (by omega)), if_neg (nI_in (show x < 27 by omega) (by omega)), nI_clamp (show x < 2 ^ 31 by omega), nI_1]
      have e1 : upd (pCp row crow x) x (row x) = pCp row crow (x + 1) := by
        funext i
        unfold upd pCp
        by_cases h : i = x
        · rw [if_pos h, if_pos (by omega), h]
        · rw [if_neg h]
          by_cases h2 : i < x
          · rw [if_pos h2, if_pos (by omega)]
          · rw [if_neg h2, if_neg (by omega)]
      rw [e1]
      exact ih n (x + 1) (by omega) (by omega)
theorem p_rowAt {mb bb : Nat → Int32} (hB : pB mb bb) {S e c r : Nat} (hS : S ≤ 512) (he : e < 16) (hc : c < 16) (hr : r < 8) (isC common code data back first frm to row crow kept ins ends cod dat rr fi rok ron ros cok con cos r0k r0n r0s r1k r1n r1s r2k r2n r2s r3k r3n r3s : Nat → Int32) (hce : common e = nI c) (hcc : common c = nI c) (hi : ¬ isC c = 0) (hcod : cod c = code c) (hdat : dat c = data c) (hrr : rr c = nI r) (hb : back c = nI r) (hfi : fi e = first e) (h1 : ∃ f t : Nat, ins e = nI f ∧ ends e = nI t ∧ frm e = nI f ∧ to e = nI t ∧ f ≤ t ∧ t ≤ S ∧ pRun bb t (isC e) 512 f 0) (h2 : ∃ f t : Nat, ins c = nI f ∧ ends c = nI t ∧ frm c = nI f ∧ to c = nI t ∧ f ≤ t ∧ t ≤ S ∧ pRun bb t (isC c) 512 f 0) (dp pl rA rL rB o0 r0 n0 b0 at0 lim0 bad0 kr pl0 pc : Int32) :
    ∃ (v1 v2 v3 v4 v5 o' r' nn' b' u1 u2 u3 u4 u5 : Int32) (row' crow' kept' rok' ron' ros' cok' con' cos' x0k x0n x0s x1k x1n x1s x2k x2n x2s x3k x3n x3s : Nat → Int32), f_Tr_rowAt dp pl rA rL rB bb o0 r0 n0 b0 rok ron ros cok con cos r0k r0n r0s r1k r1n r1s r2k r2n r2s r3k r3n r3s ins ends cod dat rr fi e c pc = some (v1, v2, v3, v4, v5, o', r', nn', b', rok', ron', ros', cok', con', cos', x0k, x0n, x0s, x1k, x1n, x1s, x2k, x2n, x2s, x3k, x3n, x3s) ∧ f_Md_rowAt at0 lim0 bad0 kr pl0 mb isC common code data back first frm to row crow kept (nI e) pc = some (u1, u2, u3, u4, u5, row', crow', kept') ∧ pRow row' rok' ron' ros' ∧ pRf S row' := by
  obtain ⟨f1, t1, a1, a2, a3, a4, a5, a6, a7⟩ := h1
  obtain ⟨f2, t2, d1, d2, d3, d4, d5, d6, d7⟩ := h2
  obtain ⟨a, b, c', g1, g2⟩ := p_reset hr row rok ron ros
  obtain ⟨o', r', nn', b', row', kept', rok', ron', ros', x0k, x0n, x0s, x1k, x1n, x1s, x2k, x2n, x2s, x3k, x3n, x3s, k1, k2, k3, k4⟩ := p_comm hB d6 hS hc isC common code data back first frm to crow hcc hi cok con cos ins ends cod dat (j1 := c) hcod hdat pc (nI e) pc 512 f2 LF LF 0 o0 r0 n0 b0 (pBeg row r) kept a b c' r0k r0n r0s r1k r1n r1s r2k r2n r2s r3k r3n r3s d7 d5 (by unfold LF; omega) (by unfold LF; omega) (by omega) g2 (p_rfBeg S row hr)
  have hcr : pRow (pCp row' crow 27) (va_cpy rok' cok 0 0 9) (va_cpy ron' con 0 0 9) (va_cpy ros' cos 0 0 9) := p_rowCpy (p_rowEq k3 (fun i hi => by unfold pCp; rw [if_pos hi]))
  have hcf : pRf S (pCp row' crow 27) := p_rfEq k4 (fun i hi => by unfold pCp; rw [if_pos hi])
  obtain ⟨v1, v2, v3, v4, v5, o2, r2, nn2, b2, u1, u2, u3, u4, u5, row2, kept2, rok2, ron2, ros2, y0k, y0n, y0s, y1k, y1n, y1s, y2k, y2n, y2s, y3k, y3n, y3s, m1, m2, m3, m4⟩ := p_frame hB a6 hS he hc isC common code data back first frm to (pCp row' crow 27) hce (va_cpy rok' cok 0 0 9) (va_cpy ron' con 0 0 9) (va_cpy ros' cos 0 0 9) ins ends cod dat (j1 := e) hcod hdat hcr hcf pc (nI c) (nI 27) 512 f1 0 LF LF 0 (first e) o' r' nn' b' row' kept' rok' ron' ros' x0k x0n x0s x1k x1n x1s x2k x2n x2s x3k x3n x3s a7 a5 (by unfold LF; omega) (by unfold LF; omega) (by omega) k3 (fun i hi => absurd hi (by omega)) k4 (fun i hi => absurd hi (by omega))
  have h59 := p_59 (nI t2) (nI t2) 0 (nI 0) 0 mb isC common code data back first frm to row' crow kept' he pc (nI c) 27 LF 0 (by omega) (by unfold LF; omega)
  rw [show pCp row' crow 0 = crow by funext i; unfold pCp; rw [if_neg (by omega)], a3, a4, m2] at h59
  refine ⟨v1, v2, v3, v4, v5, o2, r2, nn2, b2, u1, u2, u3, u4, u5, row2, pCp row' crow 27, kept2, rok2, ron2, ros2, va_cpy rok' cok 0 0 9, va_cpy ron' con 0 0 9, va_cpy ros' cos 0 0 9, y0k, y0n, y0s, y1k, y1n, y1s, y2k, y2n, y2s, y3k, y3n, y3s, ?_, ?_, m3, m4⟩
  · unfold f_Tr_rowAt f_Tr_follow f_Rd_open f_Ro_copyFrom
    rw [hrr, g1, Option.bind_some, Option.bind_some]
    dsimp only
    rw [d1, d2]
    rw [show f_Tr_follow_18 LF 0 0 (nI f2) (nI t2) 0 bb o0 r0 n0 b0 a b c' cok con cos r0k r0n r0s r1k r1n r1s r2k r2n r2s r3k r3n r3s ins ends cod dat c c pc 0 = _ from k1, Option.bind_some, Option.bind_some, Option.bind_some]
    dsimp only
    rw [a1, a2, hfi]
    rw [show f_Tr_follow_18 LF (nI 0) (first e) (nI f1) (nI t1) 0 bb o' r' nn' b' rok' ron' ros' (va_cpy rok' cok 0 0 9) (va_cpy ron' con 0 0 9) (va_cpy ros' cos 0 0 9) x0k x0n x0s x1k x1n x1s x2k x2n x2s x3k x3n x3s ins ends cod dat e c pc 0 = _ from m1, Option.bind_some]
  · unfold f_Md_rowAt
    rw [if_neg (nI_in he (by omega)), nI_clamp (show e < 2 ^ 31 by omega), hce, p_begin bad0 kr pl0 common back row hc hc hr hcc hb, Option.bind_some, if_neg (nI_in hc (by omega)), if_neg (nI_in hc (by omega)), nI_clamp (show c < 2 ^ 31 by omega), d3, d4]
    dsimp only
    exact (show f_Md_rowAt_37 LF (nI f2) (nI t2) 0 0 0 mb isC common code data back first frm to (pBeg row r) crow kept (nI e) pc (nI c) = _ from k2).trans h59
