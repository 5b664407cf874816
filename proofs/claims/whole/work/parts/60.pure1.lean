/-! PURE: the reader -/
def pB (mb bb : Nat → Int32) : Prop := ∀ k, k < 512 → mb k = bb k &&& 255
theorem p_byte {P : Int32 → Prop} (h : ∀ k, k < 256 → P (nI k)) (x : Int32) : P (x &&& 255) := by
  have e : x &&& 255 = nI (x.toBitVec.toNat % 256) := by
    apply Int32.toBitVec_inj.mp
    show x.toBitVec &&& 255#32 = BitVec.ofNat 32 (x.toBitVec.toNat % 256)
    apply BitVec.eq_of_toNat_eq
    rw [BitVec.toNat_and]
    show x.toBitVec.toNat &&& (2 ^ 8 - 1) = (x.toBitVec.toNat % 256) % 2 ^ 32
    rw [Nat.and_two_pow_sub_one_eq_mod]
    omega
  rw [e]
  exact h _ (by omega)
theorem p_128 (x : Int32) : (x &&& 128 = 0) = ((x &&& 255) ≤ 127) := by
  have e : x &&& 128 = (x &&& 255) &&& 128 := by rw [Int32.and_assoc]; rfl
  rw [e]
  exact p_byte (P := fun y => (y &&& 128 = 0) = (y ≤ 127)) (fun k hk => propext ((by decide +kernel : ∀ k, k < 256 → ((nI k &&& 128 = 0) ↔ (nI k ≤ 127))) k hk)) x
theorem p_127 (x : Int32) : (x &&& 255) &&& 127 = x &&& 127 := by rw [Int32.and_assoc]; rfl
theorem p_64 (x : Int32) (h : (x &&& 255) ≤ 127) : (x &&& 64 = 0) = ((x &&& 255) ≤ 63) := by
  have e : x &&& 64 = (x &&& 255) &&& 64 := by rw [Int32.and_assoc]; rfl
  rw [e]
  exact p_byte (P := fun y => y ≤ 127 → (y &&& 64 = 0) = (y ≤ 63)) (fun k hk h => propext ((by decide +kernel : ∀ k, k < 256 → nI k ≤ 127 → ((nI k &&& 64 = 0) ↔ (nI k ≤ 63))) k hk h)) x h
theorem p_in {x : Int32} {n : Nat} (h : ¬ (x < 0 ∨ n ≤ x.toNatClampNeg)) : x.toNatClampNeg < n := Nat.lt_of_not_le (fun z => h (Or.inr z))
theorem p_unsL {mb bb : Nat → Int32} (hB : pB mb bb) (t l b c : Int32) : ∀ (n : Nat) (v x : Int32), f_Rd_unsigned_31 n t l b bb c v x = f_Md_unsigned_24 n t l b mb c v x := by
  intro n
  induction n with
  | zero => intro v x; rfl
  | succ n ih =>
    intro v x
    rw [f_Rd_unsigned_31, f_Md_unsigned_24]
    by_cases h1 : c ≤ x
    · rw [if_pos h1, if_pos h1]
    · rw [if_neg h1, if_neg h1]
      by_cases h2 : (t + x) < 0 ∨ 512 ≤ (t + x).toNatClampNeg
      · rw [if_pos h2, if_pos h2]
      · rw [if_neg h2, if_neg h2, hB _ (p_in h2)]
        exact ih _ _
theorem p_uns {mb bb : Nat → Int32} (hB : pB mb bb) {a L c : Nat} (ha : a ≤ L) (hL : L ≤ 512) (hc : c ≤ 4) : f_Rd_unsigned (nI a) (nI L) 0 bb (nI c) = f_Md_unsigned (nI a) (nI L) 0 mb (nI c) := by
  unfold f_Rd_unsigned f_Md_unsigned
  rw [if_pos rfl, pk_sub ha, nI_add]
  by_cases h : a + c ≤ L
  · rw [if_pos (nI_le (show c ≤ L - a by omega) (by omega)), if_pos (nI_le h (by omega))]
    exact p_unsL hB _ _ _ _ _ _ _
  · rw [if_neg (nI_ge (show L - a < c by omega) (by omega)), if_neg (nI_ge (show L < a + c by omega) (by omega))]
def pU (mb : Nat → Int32) (a : Nat) : Nat → Int32
  | 0 => 0
  | c + 1 => pU mb a c ||| (mb (a + c) <<< ((8 * nI c) &&& 31))
theorem p_MunsL (mb : Nat → Int32) (a c : Nat) (l b : Int32) (h : a + c ≤ 512) : ∀ (k n x : Nat), c = x + k → k < n → f_Md_unsigned_24 n (nI a) l b mb (nI c) (pU mb a x) (nI x) = some (pU mb a c, nI (a + c), b) := by
  intro k
  induction k with
  | zero =>
    intro n x hx hn
    match n, hn with
    | n + 1, _ =>
      subst hx
      rw [f_Md_unsigned_24, if_pos (nI_le (Nat.le_refl _) (by omega)), nI_add]
  | succ k ih =>
    intro n x hx hn
    match n, hn with
    | n + 1, hn =>
      rw [f_Md_unsigned_24, if_neg (nI_ge (show x < c by omega) (by omega)), nI_add, if_neg (nI_in (show a + x < 512 by omega) (by omega)), nI_clamp (show a + x < 2 ^ 31 by omega), nI_1]
      exact ih n (x + 1) (by omega) (by omega)
/-- what the model's unsigned does -/
theorem p_Muns (mb : Nat → Int32) {a L c : Nat} (b : Int32) (ha : a ≤ L) (hL : L ≤ 512) (hc : c ≤ 4) : f_Md_unsigned (nI a) (nI L) b mb (nI c) = if a + c ≤ L then some (pU mb a c, nI (a + c), b) else some (0, nI a, 1) := by
  unfold f_Md_unsigned
  rw [nI_add]
  by_cases h : a + c ≤ L
  · rw [if_pos (nI_le h (by omega)), if_pos h]
    exact p_MunsL mb a c _ b (by omega) c LF 0 (by omega) (by unfold LF; omega)
  · rw [if_neg (nI_ge (show L < a + c by omega) (by omega)), if_neg h]
theorem p_U1 (mb : Nat → Int32) (a : Nat) : pU mb a 1 = mb a := by
  show (0 : Int32) ||| (mb (a + 0) <<< ((8 * nI 0) &&& 31)) = mb a
  have e : ((8 * nI 0) &&& 31 : Int32) = 0 := by decide +kernel
  rw [e]
  simp
/-- a leb begun anew in a broken reader -/
theorem p_ulebB (t l : Int32) (bb : Nat → Int32) : f_Rd_uleb t l 1 bb = some (0, t, 1) := by
  unfold f_Rd_uleb
  show f_Rd_uleb_4 (4095 + 1) t l 1 bb 0 0 = _
  rw [f_Rd_uleb_4, if_neg (by decide), if_neg (by decide)]
theorem p_slebB (t l : Int32) (bb : Nat → Int32) : f_Rd_sleb t l 1 bb = some (0, t, 1) := by
  unfold f_Rd_sleb
  rw [p_ulebB, Option.bind_some]
  exact if_neg (show ¬ (1 : Int32) = 0 by decide)
theorem p_unsB (t l c : Int32) (bb : Nat → Int32) : f_Rd_unsigned t l 1 bb c = some (0, t, 1) := by
  unfold f_Rd_unsigned
  rw [if_neg (by decide)]
theorem p_7 (k : Nat) : 7 * nI k = nI (7 * k) := pk_mul 7 k
theorem p_ulebL {mb bb : Nat → Int32} (hB : pB mb bb) {L : Nat} (hL : L ≤ 512) : ∀ (j k : Nat), k + j = 5 → ∀ (a n m : Nat) (v : Int32), a ≤ L → j < n → j + 1 < m → f_Rd_uleb_4 n (nI a) (nI L) 0 bb v (nI k) = f_Md_leb_7 m (nI a) (nI L) 0 mb 0 v (nI (7 * k)) 1 := by
  intro j
  induction j with
  | zero =>
    intro k hk a n m v ha hn hm
    match n, m, hn, hm with
    | n + 1, m + 1, _, _ =>
      obtain rfl : k = 5 := by omega
      rw [f_Rd_uleb_4, f_Md_leb_7, if_pos (by decide), if_neg (by decide)]
      by_cases h : nI a = nI L
      · rw [if_pos h]
      · rw [if_neg h, if_pos (by decide)]
  | succ j ih =>
    intro k hk a n m v ha hn hm
    match n, m, hn, hm with
    | n + 1, m + 1, hn, hm =>
      rw [f_Rd_uleb_4, f_Md_leb_7, if_neg (show ¬ (5 : Int32) ≤ nI k from nI_ge (b := 5) (show k < 5 by omega) (by omega)), if_pos rfl, if_neg (show ¬ (1 : Int32) = 0 by decide)]
      by_cases h : a = L
      · subst h
        rw [if_pos (nI_le (Nat.le_refl _) (by omega)), if_pos rfl]
      · rw [if_neg (nI_ge (show a < L by omega) (by omega)), if_neg (fun z => h ((nI_eq (by omega) (by omega)).mp z)), if_neg (nI_in (show a < 512 by omega) (by omega)), if_neg (show ¬ nI (7 * k) = (35 : Int32) from fun z => absurd ((nI_eq (a := 7 * k) (b := 35) (by omega) (by omega)).mp z) (by omega)), if_neg (nI_in (show a < 512 by omega) (by omega)), nI_clamp (show a < 2 ^ 31 by omega), hB a (by omega), p_127, p_7, nI_1, nI_1]
        have e7 : nI (7 * k) + 7 = nI (7 * (k + 1)) := nI_add (7 * k) 7
        by_cases hb : bb a &&& 128 = 0
        · have hb2 : (bb a &&& 255) ≤ 127 := by rw [← p_128]; exact hb
          rw [if_pos hb, if_pos hb2, if_pos rfl]
          match m, hm with
          | m + 1, _ => rw [f_Md_leb_7, if_pos rfl]
        · have hb2 : ¬ (bb a &&& 255) ≤ 127 := by rw [← p_128]; exact hb
          rw [if_neg hb, if_neg hb2, e7]
          exact ih (k + 1) (by omega) (a + 1) n m _ (by omega) (by omega) (by omega)
theorem p_uleb {mb bb : Nat → Int32} (hB : pB mb bb) {a L : Nat} (ha : a ≤ L) (hL : L ≤ 512) : f_Rd_uleb (nI a) (nI L) 0 bb = f_Md_leb (nI a) (nI L) 0 mb 0 :=
  p_ulebL hB hL 5 0 rfl a LF LF 0 ha (by unfold LF; omega) (by unfold LF; omega)
def pPost (bb : Nat → Int32) (t : Int32) (q : Int32 × Int32 × Int32) : Option (Int32 × Int32 × Int32) := if q.2.2 = 0 then (if 32 ≤ (7 * (q.2.1 - t)) then (some (q.1, q.2.1, q.2.2)) else (if (q.2.1 - 1) < 0 ∨ 512 ≤ (q.2.1 - 1).toNatClampNeg then none else if ((bb (q.2.1 - 1).toNatClampNeg) &&& 64) = 0 then (some (q.1, q.2.1, q.2.2)) else (some (q.1 ||| ((-1) <<< ((7 * (q.2.1 - t)) &&& 31)), q.2.1, q.2.2)))) else (some (q.1, q.2.1, q.2.2))
theorem p_slebL {mb bb : Nat → Int32} (hB : pB mb bb) {L : Nat} (hL : L ≤ 512) (a0 : Nat) : ∀ (j k : Nat), k + j = 5 → ∀ (a n m : Nat) (v : Int32), a = a0 + k → a ≤ L → j < n → j + 1 < m → (f_Rd_uleb_4 n (nI a) (nI L) 0 bb v (nI k)).bind (pPost bb (nI a0)) = f_Md_leb_7 m (nI a) (nI L) 0 mb 1 v (nI (7 * k)) 1 := by
  intro j
  have hbad : ∀ t : Int32, (some ((0 : Int32), t, (1 : Int32))).bind (pPost bb (nI a0)) = some (0, t, 1) := fun t => by
    rw [Option.bind_some]
    exact if_neg (show ¬ (1 : Int32) = 0 by decide)
  induction j with
  | zero =>
    intro k hk a n m v he ha hn hm
    match n, m, hn, hm with
    | n + 1, m + 1, _, _ =>
      obtain rfl : k = 5 := by omega
      rw [f_Rd_uleb_4, f_Md_leb_7, if_pos (by decide), if_neg (by decide), hbad]
      by_cases h : nI a = nI L
      · rw [if_pos h]
      · rw [if_neg h, if_pos (by decide)]
  | succ j ih =>
    intro k hk a n m v he ha hn hm
    match n, m, hn, hm with
    | n + 1, m + 1, hn, hm =>
      rw [f_Rd_uleb_4, f_Md_leb_7, if_neg (show ¬ (5 : Int32) ≤ nI k from nI_ge (b := 5) (show k < 5 by omega) (by omega)), if_pos rfl, if_neg (show ¬ (1 : Int32) = 0 by decide)]
      by_cases h : a = L
      · subst h
        rw [if_pos (nI_le (Nat.le_refl _) (by omega)), if_pos rfl, hbad]
      · rw [if_neg (nI_ge (show a < L by omega) (by omega)), if_neg (fun z => h ((nI_eq (by omega) (by omega)).mp z)), if_neg (nI_in (show a < 512 by omega) (by omega)), if_neg (show ¬ nI (7 * k) = (35 : Int32) from fun z => absurd ((nI_eq (a := 7 * k) (b := 35) (by omega) (by omega)).mp z) (by omega)), if_neg (nI_in (show a < 512 by omega) (by omega)), nI_clamp (show a < 2 ^ 31 by omega), hB a (by omega), p_127, p_7, nI_1]
        have e7 : nI (7 * k) + 7 = nI (7 * (k + 1)) := nI_add (7 * k) 7
        by_cases hb : bb a &&& 128 = 0
        · have hb2 : (bb a &&& 255) ≤ 127 := by rw [← p_128]; exact hb
          rw [if_pos hb, if_pos hb2, if_neg (show ¬ (1 : Int32) = 0 by decide), e7, Option.bind_some]
          have es : nI (a + 1) - nI a0 = nI (k + 1) := by rw [pk_sub (show a0 ≤ a + 1 by omega)]; congr 1; omega
          show (if (0 : Int32) = 0 then _ else _) = _
          rw [if_pos rfl]
          dsimp only
          rw [es, p_7, nI_pred, if_neg (nI_in (show a < 512 by omega) (by omega)), nI_clamp (show a < 2 ^ 31 by omega)]
          match m, hm with
          | m + 1, _ =>
            rw [f_Md_leb_7, f_Md_leb_7, if_pos rfl, if_pos rfl]
            by_cases h32 : (32 : Int32) ≤ nI (7 * (k + 1))
            · rw [if_pos h32, if_pos h32]
              by_cases h63 : (bb a &&& 255) ≤ 63
              · rw [if_pos h63]
              · rw [if_neg h63]
            · rw [if_neg h32, if_neg h32]
              by_cases h63 : (bb a &&& 255) ≤ 63
              · have h64 : bb a &&& 64 = 0 := by rw [p_64 _ hb2]; exact h63
                rw [if_pos h63, if_pos h64]
              · have h64 : ¬ bb a &&& 64 = 0 := by rw [p_64 _ hb2]; exact h63
                rw [if_neg h63, if_neg h64]
        · have hb2 : ¬ (bb a &&& 255) ≤ 127 := by rw [← p_128]; exact hb
          rw [if_neg hb, if_neg hb2, e7, nI_1]
          exact ih (k + 1) (by omega) (a + 1) n m _ (by omega) (by omega) (by omega) (by omega)
theorem p_sleb {mb bb : Nat → Int32} (hB : pB mb bb) {a L : Nat} (ha : a ≤ L) (hL : L ≤ 512) : f_Rd_sleb (nI a) (nI L) 0 bb = f_Md_leb (nI a) (nI L) 0 mb 1 :=
  p_slebL hB hL a 5 0 rfl a LF LF 0 rfl ha (by unfold LF; omega) (by unfold LF; omega)
/-- the model's leb comes to an end within its limit -/
theorem p_MlebL (mb : Nat → Int32) {L : Nat} (hL : L ≤ 512) (g b : Int32) : ∀ (j k : Nat), k + j = 5 → ∀ (a m : Nat) (v : Int32), a ≤ L → j + 1 < m → ∃ (w : Int32) (a' : Nat) (b' : Int32), f_Md_leb_7 m (nI a) (nI L) b mb g v (nI (7 * k)) 1 = some (w, nI a', b') ∧ a ≤ a' ∧ a' ≤ L ∧ (b' = b ∨ b' = 1) := by
  intro j
  induction j with
  | zero =>
    intro k hk a m v ha hm
    match m, hm with
    | m + 1, _ =>
      obtain rfl : k = 5 := by omega
      rw [f_Md_leb_7, if_neg (by decide)]
      by_cases h : nI a = nI L
      · rw [if_pos h]; exact ⟨0, a, 1, rfl, Nat.le_refl _, ha, Or.inr rfl⟩
      · rw [if_neg h, if_pos (by decide)]; exact ⟨0, a, 1, rfl, Nat.le_refl _, ha, Or.inr rfl⟩
  | succ j ih =>
    intro k hk a m v ha hm
    match m, hm with
    | m + 1, hm =>
      rw [f_Md_leb_7, if_neg (show ¬ (1 : Int32) = 0 by decide)]
      by_cases h : a = L
      · subst h
        rw [if_pos rfl]; exact ⟨0, a, 1, rfl, Nat.le_refl _, ha, Or.inr rfl⟩
      · rw [if_neg (fun z => h ((nI_eq (by omega) (by omega)).mp z)), if_neg (show ¬ nI (7 * k) = (35 : Int32) from fun z => absurd ((nI_eq (a := 7 * k) (b := 35) (by omega) (by omega)).mp z) (by omega)), if_neg (nI_in (show a < 512 by omega) (by omega)), nI_1]
        have e7 : nI (7 * k) + 7 = nI (7 * (k + 1)) := nI_add (7 * k) 7
        have fin : ∀ w : Int32, ∃ (w' : Int32) (a' : Nat) (b' : Int32), f_Md_leb_7 m (nI (a + 1)) (nI L) b mb g w (nI (7 * k) + 7) 0 = some (w', nI a', b') ∧ a ≤ a' ∧ a' ≤ L ∧ (b' = b ∨ b' = 1) := fun w => by
          match m, hm with
          | m + 1, _ =>
            rw [f_Md_leb_7, if_pos rfl]
            exact ⟨w, a + 1, b, rfl, by omega, by omega, Or.inl rfl⟩
        split
        · split
          · exact fin _
          · split
            · exact fin _
            · split
              · exact fin _
              · exact fin _
        · rw [e7]
          obtain ⟨w, a', b', h1, h2, h3, h4⟩ := ih (k + 1) (by omega) (a + 1) m _ (by omega) (by omega)
          exact ⟨w, a', b', h1, by omega, h3, h4⟩
theorem p_Mleb (mb : Nat → Int32) {a L : Nat} (ha : a ≤ L) (hL : L ≤ 512) (g b : Int32) : ∃ (w : Int32) (a' : Nat) (b' : Int32), f_Md_leb (nI a) (nI L) b mb g = some (w, nI a', b') ∧ a ≤ a' ∧ a' ≤ L ∧ (b' = b ∨ b' = 1) :=
  p_MlebL mb hL g b 5 0 rfl a LF 0 ha (by unfold LF; omega)
