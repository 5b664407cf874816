/-! PURE: the small calls, class against model -/
theorem p_255 {x y : Int32} (h : x.toInt % 256 = y.toInt % 256) : x &&& 255 = y &&& 255 := by
  rw [pk_and x (m := 255) 8 (by decide), pk_and y (m := 255) 8 (by decide)]
  congr 1
  rw [← Int32.toInt_toBitVec, ← Int32.toInt_toBitVec, BitVec.toInt_eq_toNat_cond, BitVec.toInt_eq_toNat_cond] at h
  generalize x.toBitVec.toNat = a at *
  generalize y.toBitVec.toNat = b at *
  split at h <;> split at h <;> omega
theorem p_b255 (z : Int32) : vp_nar .byte z.toInt8.toInt32 &&& 255 = z &&& 255 := by
  rw [pk_vb]
  apply p_255
  rw [lg_i2b_toInt, Int.bmod_def]
  split <;> omega
theorem p_shB (x : Int32) : ∀ k, k < 4 → (x.toUInt32 >>> ((8 * nI k).toUInt32 &&& Int32.toUInt32 31)).toInt32 &&& 255 = (x >>> ((8 * nI k) &&& 31)) &&& 255 := by
  have main : ∀ (s k : Nat), s = 8 * k → k < 4 → ((((8 * nI k).toUInt32 &&& Int32.toUInt32 31)).toBitVec % 32).toNat = s → (((8 * nI k) &&& 31).toBitVec.smod 32).toNat = s → (x.toUInt32 >>> ((8 * nI k).toUInt32 &&& Int32.toUInt32 31)).toInt32 &&& 255 = (x >>> ((8 * nI k) &&& 31)) &&& 255 := by
    intro s k hs hk h1 h2
    apply p_255
    have a1 := pk_ushr x (8 * nI k) s h1
    have a2 := pk_shr x ((8 * nI k) &&& 31) s h2
    rw [a2, Int.shiftRight_eq_div_pow]
    rw [← Int32.toInt_toBitVec, ← Int32.toInt_toBitVec, BitVec.toInt_eq_toNat_cond, BitVec.toInt_eq_toNat_cond, a1]
    have l1 := x.toBitVec.isLt
    generalize x.toBitVec.toNat = a at *
    match k, hk, hs with
    | 0, _, hs => subst hs; split <;> split <;> omega
    | 1, _, hs => subst hs; split <;> split <;> omega
    | 2, _, hs => subst hs; split <;> split <;> omega
    | 3, _, hs => subst hs; split <;> split <;> omega
    | k + 4, hk, _ => exact absurd hk (by omega)
  intro k hk
  match k, hk with
  | 0, _ => exact main 0 0 rfl (by omega) (by decide) (by decide)
  | 1, _ => exact main 8 1 rfl (by omega) (by decide) (by decide)
  | 2, _ => exact main 16 2 rfl (by omega) (by decide) (by decide)
  | 3, _ => exact main 24 3 rfl (by omega) (by decide) (by decide)
  | k + 4, hk => exact absurd hk (by omega)
theorem p_feedL {S : Nat} (hS : S + 4 ≤ 512) (x : Int32) : ∀ (k j n m : Nat) (bb mb : Nat → Int32), j + k = 4 → k < n → k < m → pB mb bb → ∃ bb' mb', f_Se_append_2 n (nI S) bb x (nI j) = some (nI (S + 4), bb') ∧ f_Md_feed_32 m 0 (nI (S + j)) mb x (nI j) = some (nI (S + 4), 0, nI (S + 4), mb') ∧ pB mb' bb' := by
  intro k
  induction k with
  | zero =>
    intro j n m bb mb hj hn hm hB
    match n, m, hn, hm with
    | n + 1, m + 1, _, _ =>
      obtain rfl : j = 4 := by omega
      rw [f_Se_append_2, f_Md_feed_32, if_pos (show (4 : Int32) ≤ nI 4 by decide), if_pos (show (4 : Int32) ≤ nI 4 by decide)]
      exact ⟨bb, mb, by rw [show nI S + 4 = nI (S + 4) from nI_add S 4], rfl, hB⟩
  | succ k ih =>
    intro j n m bb mb hj hn hm hB
    match n, m, hn, hm with
    | n + 1, m + 1, hn, hm =>
      rw [f_Se_append_2, f_Md_feed_32, if_neg (show ¬ (4 : Int32) ≤ nI j from nI_ge (b := 4) (by omega) (by omega)), if_neg (show ¬ (4 : Int32) ≤ nI j from nI_ge (b := 4) (by omega) (by omega)), nI_add, if_neg (nI_in (show S + j < 512 by omega) (by omega)), if_neg (nI_in (show S + j < 512 by omega) (by omega)), nI_clamp (show S + j < 2 ^ 31 by omega), nI_1, nI_1]
      refine ih (j + 1) n m _ _ (by omega) (by omega) (by omega) (fun i hi => ?_)
      by_cases e : i = S + j
      · subst e
        rw [upd_s, upd_s, p_b255, p_shB x j (by omega)]
      · rw [upd_n _ e, upd_n _ e]
        exact hB i hi
theorem p_out (out : Nat → Int64) (v : Int32) : lg_cmp (vp_updL out (0 : Int32).toNatClampNeg v.toInt64 (0 : Int32).toNatClampNeg) v.toInt64 = 0 := by
  rw [pk_uLs, lg_cmp_eq]
def pSz (sz msz : Int32) : Prop := ∃ S, S ≤ 512 ∧ sz = nI S ∧ msz = nI S
theorem p_feed {mb bb : Nat → Int32} (hB : pB mb bb) {sz msz : Int32} (hs : pSz sz msz) (out : Nat → Int64) (thr x : Int32) : ∃ r s, f_Lw_feed sz bb out x = some r ∧ f_Md_feed thr msz mb x = some s ∧ s.2.1 = r.1 ∧ (r.1 = 0 → lg_cmp (r.2.2.2 (0 : Int32).toNatClampNeg) s.1.toInt64 = 0) ∧ pSz r.2.1 s.2.2.1 ∧ pB s.2.2.2 r.2.2.1 := by
  obtain ⟨S, hS, rfl, rfl⟩ := hs
  unfold f_Lw_feed f_Fu_feed f_Md_feed f_Se_append
  have e4 : nI S + 4 = nI (S + 4) := nI_add S 4
  rw [e4]
  rcases Nat.lt_or_ge 512 (S + 4) with q | q
  · have hn : ¬ nI (S + 4) ≤ (512 : Int32) := nI_ge (a := 512) q (by omega)
    rw [if_neg hn, if_neg hn, Option.bind_some]
    exact ⟨_, _, rfl, rfl, rfl, fun z => absurd (show (1 : Int32) = 0 from z) (by decide), ⟨S, hS, rfl, rfl⟩, hB⟩
  · have hp : nI (S + 4) ≤ (512 : Int32) := nI_le (b := 512) q (by omega)
    obtain ⟨bb', mb', g1, g2, g3⟩ := p_feedL q x 4 0 LF LF bb mb (by omega) (by unfold LF; omega) (by unfold LF; omega) hB
    rw [if_pos hp, if_pos hp, show f_Se_append_2 LF (nI S) bb x 0 = _ from g1, show f_Md_feed_32 LF 0 (nI S) mb x 0 = _ from g2, Option.bind_some, Option.bind_some]
    exact ⟨_, _, rfl, rfl, rfl, fun _ => p_out out _, ⟨S + 4, by omega, rfl, rfl⟩, g3⟩
theorem p_end {sz msz : Int32} (hs : pSz sz msz) (thr x : Int32) : ∃ r s, f_Lw_end sz x = some r ∧ f_Md_end thr msz x = some s ∧ s.1 = r.1 ∧ pSz r.2 s.2 := by
  obtain ⟨S, hS, rfl, rfl⟩ := hs
  unfold f_Lw_end f_Fu_end f_Md_end
  rw [p_win, Option.bind_some]
  by_cases h1 : x < 0
  · rw [if_pos h1, if_pos h1, if_pos rfl, Option.bind_some]
    exact ⟨_, _, rfl, rfl, rfl, ⟨S, hS, rfl, rfl⟩⟩
  · rw [if_neg h1, if_neg h1]
    by_cases h2 : x ≤ nI S
    · obtain ⟨j, hj, rfl⟩ := nI_of2 (M := nI S) (nI_toInt (by omega)) h1 h2
      rw [if_pos h2, if_neg (nI_nlt hj (by omega)), if_neg (by decide), Option.bind_some]
      exact ⟨_, _, rfl, rfl, rfl, ⟨j, by omega, rfl, rfl⟩⟩
    · have h3 : nI S < x := by
        rw [Int32.lt_iff_toInt_lt]
        rw [Int32.le_iff_toInt_le] at h2
        omega
      rw [if_neg h2, if_pos h3, if_pos rfl, Option.bind_some]
      exact ⟨_, _, rfl, rfl, rfl, ⟨S, hS, rfl, rfl⟩⟩
theorem p_spoil {mb bb : Nat → Int32} (hB : pB mb bb) {sz msz : Int32} (hs : pSz sz msz) (out : Nat → Int64) (thr x y : Int32) : ∃ r s, f_Lw_spoil sz bb out x y = some r ∧ f_Md_spoil thr msz mb x y = some s ∧ s.2.1 = r.1 ∧ (r.1 = 0 → lg_cmp (r.2.2 (0 : Int32).toNatClampNeg) s.1.toInt64 = 0) ∧ pB s.2.2 r.2.1 := by
  obtain ⟨S, hS, rfl, rfl⟩ := hs
  unfold f_Lw_spoil f_Fu_spoil f_Md_spoil f_Se_replace f_Md_spoil_20
  rw [p_win, Option.bind_some]
  have hbad : ∃ s, (if (1 : Int32) = 0 then (if x < 0 ∨ 512 ≤ x.toNatClampNeg then none else if x < 0 ∨ 512 ≤ x.toNatClampNeg then none else some (mb x.toNatClampNeg, (1 : Int32), upd mb x.toNatClampNeg (y &&& 255))) else (some ((0 : Int32), (1 : Int32), mb))) = some s ∧ s.2.1 = 1 ∧ s.2.2 = mb := ⟨_, rfl, rfl, rfl⟩
  obtain ⟨s, hs1, hs2, hs3⟩ := hbad
  by_cases h1 : x < 0
  · rw [if_pos h1, if_pos h1, if_pos rfl, Option.bind_some, hs1]
    exact ⟨_, s, rfl, rfl, hs2, fun z => absurd (show (1 : Int32) = 0 from z) (by decide), by rw [hs3]; exact hB⟩
  · rw [if_neg h1, if_neg h1]
    by_cases h2 : x < nI S
    · obtain ⟨j, hj, rfl⟩ := nI_of h1
      have hjS : j < S := (nI_ltI hj (by omega)).mp h2
      have e1 : nI S - 1 = nI (S - 1) := pk_sub (b := 1) (by omega)
      rw [if_pos h2, e1, if_neg (nI_nlt (show j ≤ S - 1 by omega) (by omega)), if_neg (show ¬ (1 : Int32) = 0 by decide), if_pos rfl, if_neg (nI_in (show j < 512 by omega) (by omega)), if_neg (nI_in (show j < 512 by omega) (by omega)), if_neg (nI_in (show j < 512 by omega) (by omega)), if_neg (nI_in (show j < 512 by omega) (by omega)), Option.bind_some, Option.bind_some, nI_clamp (show j < 2 ^ 31 by omega)]
      refine ⟨_, _, rfl, rfl, rfl, fun _ => ?_, fun i hi => ?_⟩
      · dsimp only
        rw [hB j (by omega)]
        exact p_out out _
      · dsimp only
        by_cases e : i = j
        · subst e
          rw [upd_s, upd_s, p_b255]
        · rw [upd_n _ e, upd_n _ e]
          exact hB i hi
    · have h3 : nI S - 1 < x := by
        have ha : (nI S - 1).toInt = (S : Int) - 1 := pk_sub_toInt (b := 1) (by omega) (by omega)
        rw [Int32.lt_iff_toInt_lt, ha]
        rw [Int32.lt_iff_toInt_lt, nI_toInt (show S < 2 ^ 31 by omega)] at h2
        omega
      rw [if_neg h2, if_pos h3, if_pos rfl, Option.bind_some, hs1]
      exact ⟨_, s, rfl, rfl, hs2, fun z => absurd (show (1 : Int32) = 0 from z) (by decide), by rw [hs3]; exact hB⟩
theorem p_wordBoth (mw : Nat → Int32) (thr x v : Int32) : ∃ r s, f_Lw_word mw x v = some r ∧ f_Md_word thr mw x v = some s ∧ s.1 = r.1 ∧ s.2 = r.2 := by
  unfold f_Lw_word f_Fu_word f_Md_word
  rcases p_addr x with ⟨j, hj, rfl, z1, z2⟩ | ⟨-, z1, z2⟩
  · rw [z1, z2, Option.bind_some, Option.bind_some, if_neg (by decide), if_neg (by decide), if_neg (by decide), p_store mw hj, Option.bind_some, Option.bind_some, p_ad4 hj, if_neg (nI_in hj (by omega)), nI_clamp (by omega)]
    exact ⟨_, _, rfl, rfl, rfl, rfl⟩
  · rw [z1, z2, Option.bind_some, Option.bind_some, if_pos rfl, if_pos rfl, Option.bind_some]
    exact ⟨_, _, rfl, rfl, rfl, rfl⟩
theorem p_register {u : Nat} {kn pc uw : Int32} {fv : Nat → Int32} {ck mkn mpc muw : Int32} {rg : Nat → Int32} (h : pFr u kn pc uw fv ck mkn mpc muw rg) (thr x v : Int32) : ∃ r s, f_Lw_register kn fv x v = some r ∧ f_Md_register thr mkn rg x v = some s ∧ s.1 = r.1 ∧ pFr u r.2.1 pc uw r.2.2 ck s.2.1 mpc muw s.2.2 := by
  obtain ⟨rfl, h2, h3, h4, h5, h6⟩ := h
  unfold f_Lw_register f_Fu_register f_Md_register f_Md_register_16
  rcases p_in8 x with ⟨k, hk, rfl⟩ | ⟨hx, hn⟩
  · rw [if_neg (nI_pos (by omega)), if_pos (show nI k < (8 : Int32) from nI_lt (b := 8) hk (by omega)), p_learn hk, p_win8 hk, Option.bind_some, Option.bind_some, Option.bind_some, if_neg (by decide), if_pos rfl, if_neg (nI_in hk (by omega)), nI_clamp (by omega)]
    refine ⟨_, _, rfl, rfl, rfl, rfl, h2, h3, h4, fun r hr => ?_, h6⟩
    dsimp only
    rw [p_kn1 hk (by omega)]
    by_cases e : r = k
    · subst e
      rw [upd_s, upd_s]
      exact ⟨fun _ => rfl, fun z => absurd (Or.inr rfl) z⟩
    · rw [upd_n _ e, upd_n _ e]
      exact ⟨fun z => (h5 r hr).1 (z.resolve_right e), fun z => (h5 r hr).2 (fun y => z (Or.inl y))⟩
  · rw [p_win8n hn, Option.bind_some, if_pos rfl, if_neg (show ¬ (1 : Int32) = 0 by decide)]
    rcases hx with z | ⟨z1, z2⟩
    · rw [if_pos z, Option.bind_some]
      exact ⟨_, _, rfl, rfl, rfl, rfl, h2, h3, h4, h5, h6⟩
    · rw [if_neg z1, if_neg (fun z => by rw [Int32.lt_iff_toInt_lt] at z; rw [Int32.le_iff_toInt_le] at z2; omega), Option.bind_some]
      exact ⟨_, _, rfl, rfl, rfl, rfl, h2, h3, h4, h5, h6⟩
theorem p_get {u : Nat} {kn pc uw : Int32} {fv : Nat → Int32} {ck mkn mpc muw : Int32} {rg : Nat → Int32} (h : pFr u kn pc uw fv ck mkn mpc muw rg) (out : Nat → Int64) (thr x : Int32) : ∃ r s, f_Lw_get kn pc uw fv out x = some r ∧ f_Md_get thr mkn mpc muw rg x = some s ∧ s.2 = r.1 ∧ (r.1 = 0 → lg_cmp (r.2 (0 : Int32).toNatClampNeg) s.1.toInt64 = 0) := by
  obtain ⟨rfl, rfl, rfl, h4, h5, h6⟩ := h
  unfold f_Lw_get f_Fu_get f_Md_get f_Md_get_16
  rw [p_win, Option.bind_some]
  have hb : ∀ z : Int32 × (Nat → Int64), z = (1, out) → (z.1 = 0 → lg_cmp (z.2 (0 : Int32).toNatClampNeg) (0 : Int32).toInt64 = 0) := fun z e w => by subst e; exact absurd (show (1 : Int32) = 0 from w) (by decide)
  by_cases h1 : x < 0
  · rw [if_pos h1, if_pos h1, if_pos rfl, if_neg (by decide), Option.bind_some]
    exact ⟨_, _, rfl, rfl, rfl, hb _ rfl⟩
  · rw [if_neg h1, if_neg h1]
    by_cases h2 : x ≤ 10
    · have h3 : ¬ (10 : Int32) < x := fun z => by
        rw [Int32.lt_iff_toInt_lt] at z
        rw [Int32.le_iff_toInt_le] at h2
        omega
      rw [if_pos h2, if_neg h3, if_neg (show ¬ (1 : Int32) = 0 by decide), if_pos rfl]
      by_cases h8 : x = 8
      · rw [if_pos h8, if_pos h8, Option.bind_some]
        exact ⟨_, _, rfl, rfl, rfl, fun _ => p_out out _⟩
      · rw [if_neg h8, if_neg h8]
        by_cases h9 : x = 9
        · rw [if_pos h9, if_pos h9, Option.bind_some]
          exact ⟨_, _, rfl, rfl, rfl, fun _ => p_out out _⟩
        · rw [if_neg h9, if_neg h9]
          by_cases h10 : x = 10
          · rw [if_pos h10, if_pos h10, Option.bind_some]
            exact ⟨_, _, rfl, rfl, rfl, fun _ => p_out out _⟩
          · rw [if_neg h10, if_neg h10]
            obtain ⟨j, hj, rfl⟩ := nI_of2 (M := 10) (n := 10) (by decide) h1 h2
            have hj8 : j < 8 := by
              rcases Nat.lt_or_ge j 8 with q | q
              · exact q
              · rcases (show j = 8 ∨ j = 9 ∨ j = 10 by omega) with rfl | rfl | rfl
                · exact absurd rfl h8
                · exact absurd rfl h9
                · exact absurd rfl h10
            rw [if_neg (nI_in hj8 (by omega)), nI_clamp (by omega), Option.bind_some]
            by_cases hk : pKn mkn j
            · rw [if_pos ((p_knM hj8).mpr hk), if_neg (show ¬ (nI j < 0 ∨ 8 ≤ j) from fun z => z.elim (nI_pos (by omega)) (by omega)), ← (h5 j hj8).1 hk]
              exact ⟨_, _, rfl, rfl, rfl, fun _ => p_out out _⟩
            · rw [if_neg (fun z => hk ((p_knM hj8).mp z)), (h5 j hj8).2 hk]
              exact ⟨_, _, rfl, rfl, rfl, fun _ => p_out out 0⟩
    · have h3 : (10 : Int32) < x := by
        rw [Int32.lt_iff_toInt_lt]
        rw [Int32.le_iff_toInt_le] at h2
        omega
      rw [if_neg h2, if_pos h3, if_pos rfl, if_neg (by decide), Option.bind_some]
      exact ⟨_, _, rfl, rfl, rfl, hb _ rfl⟩
theorem p_fuel (x : Int32) : (∃ F, F ≤ 2000 ∧ x = nI F ∧ f_Fu_isFuel x = some 1 ∧ f_Md_within x 0 2000 = some 1) ∨ (f_Fu_isFuel x = some 0 ∧ f_Md_within x 0 2000 = some 0) := by
  unfold f_Fu_isFuel
  rw [p_win]
  by_cases h1 : x < 0
  · rw [if_pos h1, if_pos h1]; exact Or.inr ⟨rfl, rfl⟩
  · rw [if_neg h1, if_neg h1]
    by_cases h2 : (2000 : Int32) < x
    · rw [if_pos h2, if_pos h2]; exact Or.inr ⟨rfl, rfl⟩
    · rw [if_neg h2, if_neg h2]
      obtain ⟨j, hj, e⟩ := nI_of2 (M := 2000) (n := 2000) (by decide) h1 (by rw [Int32.lt_iff_toInt_lt] at h2; rw [Int32.le_iff_toInt_le]; omega)
      exact Or.inl ⟨j, hj, e, rfl, rfl⟩
theorem p_reckon {mb bb : Nat → Int32} (hB : pB mb bb) {sz msz : Int32} (hs : pSz sz msz) {u : Nat} {kn pc uw : Int32} {fv : Nat → Int32} {ck mkn mpc muw : Int32} {rg : Nat → Int32} (h : pFr u kn pc uw fv ck mkn mpc muw rg) (mw sk ms : Nat → Int32) (out : Nat → Int64) (lv rA rL rB H0 hc0 cf0 bg0 thr at0 lim0 bad0 h0 rk x y z : Int32) : ∃ r s, f_Lw_reckon lv sz bb rA rL rB mw kn fv H0 hc0 cf0 bg0 sk out x y z = some r ∧ f_Md_reckon thr msz at0 lim0 bad0 h0 rk lv mkn mb ms mw rg x y z = some s ∧ s.2.1 = r.1 ∧ (r.1 = 0 → lg_cmp (r.2.2.2.2.2.2.2.2.2 (0 : Int32).toNatClampNeg) s.1.toInt64 = 0) ∧ s.2.2.2.2.2.2.2.1 = r.2.1 := by
  obtain ⟨S, hS, rfl, rfl⟩ := hs
  obtain ⟨rfl, h2, h3, h4, h5, h6⟩ := h
  have hbad : ∃ s, f_Md_reckon_34 thr (nI S) at0 lim0 bad0 h0 rk lv mkn mb ms mw rg x y z 1 = some s ∧ s.2.1 = 1 ∧ s.2.2.2.2.2.2.2.1 = lv := ⟨_, rfl, rfl, rfl⟩
  obtain ⟨s, hs1, hs2, hs3⟩ := hbad
  unfold f_Lw_reckon f_Fu_reckon f_Md_reckon
  by_cases z1 : x < 0
  · rw [if_pos z1, if_pos z1, Option.bind_some, hs1]
    exact ⟨_, s, rfl, rfl, hs2, fun z => absurd (show (1 : Int32) = 0 from z) (by decide), hs3⟩
  rw [if_neg z1, if_neg z1]
  by_cases z2 : y < x
  · rw [if_pos z2, if_pos z2, Option.bind_some, hs1]
    exact ⟨_, s, rfl, rfl, hs2, fun z => absurd (show (1 : Int32) = 0 from z) (by decide), hs3⟩
  rw [if_neg z2, if_neg z2]
  by_cases z3 : nI S < y
  · rw [if_pos z3, if_pos z3, Option.bind_some, hs1]
    exact ⟨_, s, rfl, rfl, hs2, fun z => absurd (show (1 : Int32) = 0 from z) (by decide), hs3⟩
  rw [if_neg z3, if_neg z3]
  rcases p_fuel z with ⟨F, hF, rfl, e1, e2⟩ | ⟨e1, e2⟩
  · rw [e1, e2, Option.bind_some, Option.bind_some, if_neg (by decide), if_neg (by decide)]
    have e0 : (0 : Int32).toInt = 0 := by decide
    have hy0 : ¬ y < 0 := fun w => by
      rw [Int32.lt_iff_toInt_lt] at w z1 z2
      omega
    obtain ⟨Y, hY, rfl⟩ := nI_of2 (M := nI S) (nI_toInt (by omega)) hy0 (by rw [Int32.lt_iff_toInt_lt] at z3; rw [Int32.le_iff_toInt_le]; omega)
    obtain ⟨X, hX, rfl⟩ := nI_of2 (M := nI Y) (nI_toInt (by omega)) z1 (by rw [Int32.lt_iff_toInt_lt] at z2; rw [Int32.le_iff_toInt_le]; omega)
    unfold f_Md_reckon_34 f_Rk_clear
    rw [if_pos rfl, Option.bind_some]
    dsimp only
    rcases p_runC (sk := sk) (ms := ms) (mw := mw) (cf := cf0) (c' := 0) hB (show Y ≤ 512 by omega) hX (fun r hr => (h5 r hr).1) hF bg0 rA rL rB at0 lim0 bad0 rk with ⟨f, h, q, u, g0, g1, g2, g3⟩ | ⟨g, sk', ms', t1, t2, t3, u1, u2, u3, g1, g2, g3, g4⟩
    · rw [g2, g3, Option.bind_some, Option.bind_some]
      dsimp only
      rw [if_neg g0, if_neg g0, Option.bind_some]
      exact ⟨_, _, rfl, rfl, rfl, fun _ => p_out out f, rfl⟩
    · rw [g3, g4, Option.bind_some, Option.bind_some]
      dsimp only
      rw [if_pos rfl, if_pos rfl, p_topE g1, Option.bind_some, Option.bind_some, g2 g (by omega)]
      exact ⟨_, _, rfl, rfl, rfl, fun _ => p_out out 0, rfl⟩
  · rw [e1, e2, Option.bind_some, Option.bind_some, if_pos rfl, if_pos rfl, Option.bind_some, hs1]
    exact ⟨_, s, rfl, rfl, hs2, fun z => absurd (show (1 : Int32) = 0 from z) (by decide), hs3⟩
