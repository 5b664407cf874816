/-! PURE: the law's loop -/
def pS (i : Nat) (lv sz : Int32) (bb mw : Nat → Int32) (kn pc uw : Int32) (fv : Nat → Int32) (ck msz mval mkn mpc muw : Int32) (mb mm rg : Nat → Int32) : Prop := mval = lv ∧ pSz sz msz ∧ pB mb bb ∧ mm = mw ∧ pFr i kn pc uw fv ck mkn mpc muw rg
theorem p_lawL {Ls : Nat} {xs : Nat → Int32} (hLs : Ls ≤ 2048) : ∀ (n i : Nat) {t_lastValue se_size rd_at rd_limit rd_broken la_count li_operation li_register li_number li_bytesFrom tr_depth tr_place ti_operation ti_register ti_number ti_bytesFrom fr_known fr_pc fr_unwound ca_known rk_height rk_hasCfa rk_cfa rk_begins md_thrown md_size md_entries md_at md_limit md_bad md_keptRows md_place md_height md_reckoned md_value md_known md_pc md_unwound : Int32} {bb rok ron ros cok con cos r0k r0n r0s r1k r1n r1s r2k r2n r2s r3k r3n r3s mw fv cv sk m_bytes m_begins m_isCommon m_common m_code m_data m_back m_first m_range m_from m_to m_row m_commonRow m_kept m_stack m_memory m_registers m_next en_isFrame en_begins en_instructions en_ends en_common en_code en_data en_returnRegister en_first en_range : Nat → Int32} {out : Nat → Int64}, Ls + 4 < i + n → i ≤ Ls + 4 → pS i t_lastValue se_size bb mw fr_known fr_pc fr_unwound fv ca_known md_size md_value md_known md_pc md_unwound m_bytes m_memory m_registers → f_Lw_law_23 Ls xs n t_lastValue se_size bb rd_at rd_limit rd_broken la_count li_operation li_register li_number li_bytesFrom tr_depth tr_place ti_operation ti_register ti_number ti_bytesFrom rok ron ros cok con cos r0k r0n r0s r1k r1n r1s r2k r2n r2s r3k r3n r3s mw fr_known fr_pc fr_unwound fv ca_known cv rk_height rk_hasCfa rk_cfa rk_begins sk out md_thrown md_size md_entries md_at md_limit md_bad md_keptRows md_place md_height md_reckoned md_value md_known md_pc md_unwound m_bytes m_begins m_isCommon m_common m_code m_data m_back m_first m_range m_from m_to m_row m_commonRow m_kept m_stack m_memory m_registers m_next en_isFrame en_begins en_instructions en_ends en_common en_code en_data en_returnRegister en_first en_range (nI i) = some () := by
  intro n
  induction n with
  | zero =>
    intro i t_lastValue se_size rd_at rd_limit rd_broken la_count li_operation li_register li_number li_bytesFrom tr_depth tr_place ti_operation ti_register ti_number ti_bytesFrom fr_known fr_pc fr_unwound ca_known rk_height rk_hasCfa rk_cfa rk_begins md_thrown md_size md_entries md_at md_limit md_bad md_keptRows md_place md_height md_reckoned md_value md_known md_pc md_unwound bb rok ron ros cok con cos r0k r0n r0s r1k r1n r1s r2k r2n r2s r3k r3n r3s mw fv cv sk m_bytes m_begins m_isCommon m_common m_code m_data m_back m_first m_range m_from m_to m_row m_commonRow m_kept m_stack m_memory m_registers m_next en_isFrame en_begins en_instructions en_ends en_common en_code en_data en_returnRegister en_first en_range out hn hi h
    exact absurd hn (by omega)
  | succ n ih =>
    intro i t_lastValue se_size rd_at rd_limit rd_broken la_count li_operation li_register li_number li_bytesFrom tr_depth tr_place ti_operation ti_register ti_number ti_bytesFrom fr_known fr_pc fr_unwound ca_known rk_height rk_hasCfa rk_cfa rk_begins md_thrown md_size md_entries md_at md_limit md_bad md_keptRows md_place md_height md_reckoned md_value md_known md_pc md_unwound bb rok ron ros cok con cos r0k r0n r0s r1k r1n r1s r2k r2n r2s r3k r3n r3s mw fv cv sk m_bytes m_begins m_isCommon m_common m_code m_data m_back m_first m_range m_from m_to m_row m_commonRow m_kept m_stack m_memory m_registers m_next en_isFrame en_begins en_instructions en_ends en_common en_code en_data en_returnRegister en_first en_range out hn hi h
    rw [f_Lw_law_23]
    by_cases hd : (Int32.ofNat Ls - 4) < nI i
    · rw [if_pos hd]
    · rw [if_neg hd]
      have hi4 : i + 4 ≤ Ls := by
        rw [show Int32.ofNat Ls - 4 = nI Ls - nI 4 from rfl, Int32.lt_iff_toInt_lt, pk_sub_toInt (by omega) (by omega), nI_toInt (by omega)] at hd
        omega
      have e1 : nI i + 1 = nI (i + 1) := nI_add i 1
      have e2 : nI i + 2 = nI (i + 2) := nI_add i 2
      have e3 : nI i + 3 = nI (i + 3) := nI_add i 3
      have e4 : nI i + 4 = nI (i + 4) := nI_add i 4
      have c1 : (nI (i + 1)).toNatClampNeg = i + 1 := nI_clamp (by omega)
      have c2 : (nI (i + 2)).toNatClampNeg = i + 2 := nI_clamp (by omega)
      have c3 : (nI (i + 3)).toNatClampNeg = i + 3 := nI_clamp (by omega)
      have j1 : ¬ (nI (i + 1) < 0 ∨ Ls ≤ i + 1) := fun z => z.elim (nI_pos (by omega)) (by omega)
      have j2 : ¬ (nI (i + 2) < 0 ∨ Ls ≤ i + 2) := fun z => z.elim (nI_pos (by omega)) (by omega)
      have j3 : ¬ (nI (i + 3) < 0 ∨ Ls ≤ i + 3) := fun z => z.elim (nI_pos (by omega)) (by omega)
      have j00 : ¬ ((0 : Int32) < 0 ∨ 1 ≤ (0 : Int32).toNatClampNeg) := by decide
      rw [if_neg (nI_in (show i < Ls by omega) (by omega)), nI_clamp (show i < 2 ^ 31 by omega), e4]
      obtain ⟨rfl, hsz, hB, rfl, hfr⟩ := h
      have hfr4 := p_frUp hfr (show i ≤ i + 4 by omega)
      by_cases h0 : (xs i &&& 15) = 0
      · rw [if_pos h0]
        rw [e1, c1, if_neg j1]
        obtain ⟨r, s, a1, a2, a3, a4, a5, a6⟩ := p_feed hB hsz out md_thrown (xs (i + 1))
        rw [a1, Option.bind_some, if_neg j1, a2, Option.bind_some]
        rw [show f_Md_thrown s.2.1 = some s.2.1 from rfl, Option.bind_some, if_pos a3]
        by_cases hr0 : r.1 = 0
        · rw [if_pos hr0, if_neg j00, if_pos (a4 hr0)]
          exact ih (i + 4) (by omega) (by omega) ⟨rfl, a5, a6, rfl, hfr4⟩
        · rw [if_neg hr0]
          exact ih (i + 4) (by omega) (by omega) ⟨rfl, a5, a6, rfl, hfr4⟩
      rw [if_neg h0]
      by_cases h1 : (xs i &&& 15) = 1
      · rw [if_pos h1]
        rw [e1, c1, if_neg j1]
        obtain ⟨r, s, a1, a2, a3, a5⟩ := p_end hsz md_thrown (xs (i + 1))
        rw [a1, Option.bind_some, if_neg j1, a2, Option.bind_some]
        rw [show f_Md_thrown s.1 = some s.1 from rfl, Option.bind_some, if_pos a3]
        exact ih (i + 4) (by omega) (by omega) ⟨rfl, a5, hB, rfl, hfr4⟩
      rw [if_neg h1]
      by_cases h2 : (xs i &&& 15) = 2
      · rw [if_pos h2]
        rw [e1, e2, c1, c2, if_neg j1, if_neg j2]
        obtain ⟨r, s, a1, a2, a3, a4, a5⟩ := p_spoil hB hsz out md_thrown (xs (i + 1)) (xs (i + 2))
        rw [a1, Option.bind_some, if_neg j1, if_neg j2, a2, Option.bind_some]
        rw [show f_Md_thrown s.2.1 = some s.2.1 from rfl, Option.bind_some, if_pos a3]
        by_cases hr0 : r.1 = 0
        · rw [if_pos hr0, if_neg j00, if_pos (a4 hr0)]
          exact ih (i + 4) (by omega) (by omega) ⟨rfl, hsz, a5, rfl, hfr4⟩
        · rw [if_neg hr0]
          exact ih (i + 4) (by omega) (by omega) ⟨rfl, hsz, a5, rfl, hfr4⟩
      rw [if_neg h2]
      by_cases h3 : (xs i &&& 15) = 3
      · rw [if_pos h3]
        obtain ⟨r, s, a1, a2, a3⟩ := p_faultB hB hsz rd_at rd_limit rd_broken la_count li_operation li_register li_number li_bytesFrom md_thrown md_entries md_at md_limit md_bad md_keptRows md_place en_isFrame en_begins en_instructions en_ends en_common en_code en_data en_returnRegister en_first en_range m_begins m_isCommon m_common m_code m_data m_back m_first m_range m_from m_to m_row m_commonRow m_kept
        rw [a1, Option.bind_some, a2, Option.bind_some, if_pos a3]
        exact ih (i + 4) (by omega) (by omega) ⟨rfl, hsz, hB, rfl, hfr4⟩
      rw [if_neg h3]
      by_cases h4 : (xs i &&& 15) = 4
      · rw [if_pos h4]
        obtain ⟨r, s, a1, a2, a3⟩ := p_entriesB hB hsz rd_at rd_limit rd_broken la_count li_operation li_register li_number li_bytesFrom md_thrown md_entries md_at md_limit md_bad md_keptRows md_place en_isFrame en_begins en_instructions en_ends en_common en_code en_data en_returnRegister en_first en_range m_begins m_isCommon m_common m_code m_data m_back m_first m_range m_from m_to m_row m_commonRow m_kept
        rw [a1, Option.bind_some, a2, Option.bind_some, if_pos a3]
        exact ih (i + 4) (by omega) (by omega) ⟨rfl, hsz, hB, rfl, hfr4⟩
      rw [if_neg h4]
      by_cases h5 : (xs i &&& 15) = 5
      · rw [if_pos h5]
        rw [e1, c1, if_neg j1]
        obtain ⟨r, s, a1, a2, a3, a4⟩ := p_findB hB hsz out rd_at rd_limit rd_broken la_count li_operation li_register li_number li_bytesFrom md_thrown md_entries md_at md_limit md_bad md_keptRows md_place (xs (i + 1)) en_isFrame en_begins en_instructions en_ends en_common en_code en_data en_returnRegister en_first en_range m_begins m_isCommon m_common m_code m_data m_back m_first m_range m_from m_to m_row m_commonRow m_kept
        rw [a1, Option.bind_some, if_neg j1, a2, Option.bind_some]
        rw [show f_Md_thrown s.2.1 = some s.2.1 from rfl, Option.bind_some, if_pos a3]
        by_cases hr0 : r.1 = 0
        · rw [if_pos hr0, if_neg j00, if_pos (a4 hr0)]
          exact ih (i + 4) (by omega) (by omega) ⟨rfl, hsz, hB, rfl, hfr4⟩
        · rw [if_neg hr0]
          exact ih (i + 4) (by omega) (by omega) ⟨rfl, hsz, hB, rfl, hfr4⟩
      rw [if_neg h5]
      by_cases h6 : (xs i &&& 15) = 6
      · rw [if_pos h6]
        rw [e1, e2, e3, c1, c2, c3, if_neg j1, if_neg j2, if_neg j3]
        obtain ⟨r, s, a1, a2, a3, a4⟩ := p_rowB hB hsz out rd_at rd_limit rd_broken la_count li_operation li_register li_number li_bytesFrom tr_depth tr_place ti_operation ti_register ti_number ti_bytesFrom md_thrown md_entries md_at md_limit md_bad md_keptRows md_place (xs (i + 1)) (xs (i + 2)) (xs (i + 3)) rok ron ros cok con cos r0k r0n r0s r1k r1n r1s r2k r2n r2s r3k r3n r3s en_isFrame en_begins en_instructions en_ends en_common en_code en_data en_returnRegister en_first en_range m_begins m_isCommon m_common m_code m_data m_back m_first m_range m_from m_to m_row m_commonRow m_kept
        rw [a1, Option.bind_some, if_neg j1, if_neg j2, if_neg j3, a2, Option.bind_some]
        rw [show f_Md_thrown s.2.1 = some s.2.1 from rfl, Option.bind_some, if_pos a3]
        by_cases hr0 : r.1 = 0
        · rw [if_pos hr0, if_neg j00, if_pos (a4 hr0)]
          exact ih (i + 4) (by omega) (by omega) ⟨rfl, hsz, hB, rfl, hfr4⟩
        · rw [if_neg hr0]
          exact ih (i + 4) (by omega) (by omega) ⟨rfl, hsz, hB, rfl, hfr4⟩
      rw [if_neg h6]
      by_cases h7 : (xs i &&& 15) = 7
      · rw [if_pos h7]
        rw [e1, e2, c1, c2, if_neg j1, if_neg j2]
        obtain ⟨r, s, a1, a2, a3, a5⟩ := p_wordBoth m_memory md_thrown (xs (i + 1)) (xs (i + 2))
        rw [a1, Option.bind_some, if_neg j1, if_neg j2, a2, Option.bind_some]
        rw [show f_Md_thrown s.1 = some s.1 from rfl, Option.bind_some, if_pos a3]
        exact ih (i + 4) (by omega) (by omega) ⟨rfl, hsz, hB, a5, hfr4⟩
      rw [if_neg h7]
      by_cases h8 : (xs i &&& 15) = 8
      · rw [if_pos h8]
        rw [e1, e2, c1, c2, if_neg j1, if_neg j2]
        obtain ⟨r, s, a1, a2, a3, a5⟩ := p_register hfr4 md_thrown (xs (i + 1)) (xs (i + 2))
        rw [a1, Option.bind_some, if_neg j1, if_neg j2, a2, Option.bind_some]
        rw [show f_Md_thrown s.1 = some s.1 from rfl, Option.bind_some, if_pos a3]
        exact ih (i + 4) (by omega) (by omega) ⟨rfl, hsz, hB, rfl, a5⟩
      rw [if_neg h8]
      by_cases h9 : (xs i &&& 15) = 9
      · rw [if_pos h9]
        rw [e1, c1, if_neg j1]
        rw [show f_Fu_start fr_pc fr_unwound (xs (i + 1)) = some ((xs (i + 1)), 0) from rfl, Option.bind_some, if_neg j1, show f_Md_start md_thrown md_pc md_unwound (xs (i + 1)) = some (0, (xs (i + 1)), 0) from rfl, Option.bind_some]
        obtain ⟨b1, b2, b3, b4, b5⟩ := hfr4
        exact ih (i + 4) (by omega) (by omega) ⟨rfl, hsz, hB, rfl, b1, rfl, rfl, ⟨0, by omega, rfl⟩, b5⟩
      rw [if_neg h9]
      by_cases h10 : (xs i &&& 15) = 10
      · rw [if_pos h10]
        rw [e1, e2, e3, c1, c2, c3, if_neg j1, if_neg j2, if_neg j3]
        obtain ⟨r, s, a1, a2, a3, a4, a5⟩ := p_reckon hB hsz hfr4 m_memory sk m_stack out md_value rd_at rd_limit rd_broken rk_height rk_hasCfa rk_cfa rk_begins md_thrown md_at md_limit md_bad md_height md_reckoned (xs (i + 1)) (xs (i + 2)) (xs (i + 3))
        rw [a1, Option.bind_some, if_neg j1, if_neg j2, if_neg j3, a2, Option.bind_some]
        rw [show f_Md_thrown s.2.1 = some s.2.1 from rfl, Option.bind_some, if_pos a3]
        by_cases hr0 : r.1 = 0
        · rw [if_pos hr0, if_neg j00, if_pos (a4 hr0)]
          exact ih (i + 4) (by omega) (by omega) ⟨a5, hsz, hB, rfl, hfr4⟩
        · rw [if_neg hr0]
          exact ih (i + 4) (by omega) (by omega) ⟨a5, hsz, hB, rfl, hfr4⟩
      rw [if_neg h10]
      by_cases h11 : (xs i &&& 15) = 11
      · rw [if_pos h11]
        rw [show f_Fu_value md_value = some md_value from rfl, Option.bind_some, show f_Md_value md_thrown md_value = some (md_value, 0) from rfl, Option.bind_some, if_pos rfl]
        exact ih (i + 4) (by omega) (by omega) ⟨rfl, hsz, hB, rfl, hfr4⟩
      rw [if_neg h11]
      by_cases h12 : (xs i &&& 15) = 12
      · rw [if_pos h12]
        rw [e1, c1, if_neg j1]
        obtain ⟨r, s, a1, a2, a3, a4, a5⟩ := p_unwindB hB hsz (show i < 2 ^ 30 by omega) hfr out rd_at rd_limit rd_broken la_count li_operation li_register li_number li_bytesFrom tr_depth tr_place ti_operation ti_register ti_number ti_bytesFrom rk_height rk_hasCfa rk_cfa rk_begins md_thrown md_entries md_at md_limit md_bad md_keptRows md_place md_height md_reckoned (xs (i + 1)) rok ron ros cok con cos r0k r0n r0s r1k r1n r1s r2k r2n r2s r3k r3n r3s m_memory cv sk en_isFrame en_begins en_instructions en_ends en_common en_code en_data en_returnRegister en_first en_range m_begins m_isCommon m_common m_code m_data m_back m_first m_range m_from m_to m_row m_commonRow m_kept m_stack m_next
        rw [a1, Option.bind_some, if_neg j1, a2, Option.bind_some]
        rw [show f_Md_thrown s.2.1 = some s.2.1 from rfl, Option.bind_some, if_pos a3]
        by_cases hr0 : r.1 = 0
        · rw [if_pos hr0, if_neg j00, if_pos (a4 hr0)]
          exact ih (i + 4) (by omega) (by omega) ⟨rfl, hsz, hB, rfl, p_frUp a5 (by omega)⟩
        · rw [if_neg hr0]
          exact ih (i + 4) (by omega) (by omega) ⟨rfl, hsz, hB, rfl, p_frUp a5 (by omega)⟩
      rw [if_neg h12]
      by_cases h13 : (xs i &&& 15) = 13
      · rw [if_pos h13]
        rw [e1, c1, if_neg j1]
        obtain ⟨r, s, a1, a2, a3, a4⟩ := p_get hfr out md_thrown (xs (i + 1))
        rw [a1, Option.bind_some, if_neg j1, a2, Option.bind_some]
        rw [show f_Md_thrown s.2 = some s.2 from rfl, Option.bind_some, if_pos a3]
        by_cases hr0 : r.1 = 0
        · rw [if_pos hr0, if_neg j00, if_pos (a4 hr0)]
          exact ih (i + 4) (by omega) (by omega) ⟨rfl, hsz, hB, rfl, hfr4⟩
        · rw [if_neg hr0]
          exact ih (i + 4) (by omega) (by omega) ⟨rfl, hsz, hB, rfl, hfr4⟩
      rw [if_neg h13]
      exact ih (i + 4) (by omega) (by omega) ⟨rfl, hsz, hB, rfl, hfr4⟩
theorem p_law (Ls : Nat) (xs : Nat → Int32) (h : Ls ≤ 2048) : law0 Ls xs := by
  unfold law0
  refine p_lawL h LF 0 (by unfold LF; omega) (by omega) ⟨rfl, ⟨0, by omega, rfl, rfl⟩, fun k _ => (show (0 : Int32) = 0 &&& 255 by decide), rfl, rfl, rfl, rfl, ⟨0, by omega, rfl⟩, fun r hr => ⟨fun _ => rfl, fun _ => rfl⟩, fun j h1 h2 => ?_⟩
  have hd : ∀ j, j < 32 → 8 ≤ j → ¬ (255 : Int32).toBitVec.getLsbD j = true := by decide
  exact hd j h2 h1
