/-! PURE: forms of an instruction's operands, class against model -/
def pFin (op l : Int32) (bb : Nat → Int32) (q : Int32 × Int32 × Int32 × Int32 × Int32 × Int32) : Option (Int32 × Int32 × Int32 × Int32 × Int32 × Int32 × Int32) := if q.1 = 0 then some (0, op, q.2.1, q.2.2.1, q.2.2.2.1, q.2.2.2.2.1, q.2.2.2.2.2) else f_In_readFrom_119 op q.2.1 q.2.2.1 q.2.2.2.1 q.2.2.2.2.1 l q.2.2.2.2.2 bb op op
theorem p_RF {mb bb : Nat → Int32} (hB : pB mb bb) {a L k : Nat} (ha : a < L) (hL : L ≤ 512) (hk : k < 64) (hb : mb a = nI k) (o0 r0 n0 b0 : Int32) : f_In_readFrom o0 r0 n0 b0 (nI a) (nI L) 0 bb = (f_In_readOperands (nI k) 0 0 0 (nI (a + 1)) (nI L) 0 bb).bind (pFin (nI k) (nI L) bb) := by
  unfold f_In_readFrom
  rw [p_Rbyte1 hB ha hL, Option.bind_some]
  dsimp only
  rw [hb, p_sh6 k (by omega), p_a63 k (by omega), Nat.mod_eq_of_lt hk, Nat.div_eq_of_lt hk, if_neg (by decide), if_neg (by decide), if_neg (by decide)]
  rfl
theorem p_in8 (r : Int32) : (∃ k, k < 8 ∧ r = nI k) ∨ (r < 0 ∨ ¬ r < 0 ∧ 8 ≤ r) ∧ ¬ ∃ k, k < 8 ∧ r = nI k := by
  by_cases h : ∃ k, k < 8 ∧ r = nI k
  · exact Or.inl h
  · refine Or.inr ⟨?_, h⟩
    rcases pk_ix r (n := 8) (by omega) with z | z | z
    · exact Or.inl z
    · by_cases y : r < 0
      · exact Or.inl y
      · exact Or.inr ⟨y, z⟩
    · exact absurd z h
theorem p_119 {k : Nat} (hk : k < 8) (op n f t l x y : Int32) (bb : Nat → Int32) : f_In_readFrom_119 op (nI k) n f t l 0 bb x y = some (1, op, nI k, n, f, t, 0) := by
  unfold f_In_readFrom_119
  rw [if_pos rfl, if_neg (nI_pos (by omega)), if_neg (show ¬ (8 : Int32) ≤ nI k from nI_ge (b := 8) hk (by omega))]
theorem p_119B (op r n f t l x y : Int32) (bb : Nat → Int32) : f_In_readFrom_119 op r n f t l 1 bb x y = some (0, op, r, n, f, t, 1) := by
  unfold f_In_readFrom_119
  rw [if_neg (by decide)]
theorem p_119R {r : Int32} (h : ¬ ∃ k, k < 8 ∧ r = nI k) (op n f t l x y : Int32) (bb : Nat → Int32) : f_In_readFrom_119 op r n f t l 0 bb x y = some (0, op, r, n, f, t, 0) := by
  unfold f_In_readFrom_119
  rw [if_pos rfl]
  rcases p_in8 r with z | ⟨z | ⟨z, z2⟩, -⟩
  · exact absurd z h
  · rw [if_pos z]
  · rw [if_neg z, if_pos z2]
theorem p_fin {k : Nat} (hk : k < 8) (op n f t l : Int32) (bb : Nat → Int32) : pFin op l bb (1, nI k, n, f, t, 0) = some (1, op, nI k, n, f, t, 0) := by
  unfold pFin
  rw [if_neg (show ¬ (1 : Int32) = 0 by decide)]
  exact p_119 hk _ _ _ _ _ _ _ _
theorem p_finB (op r n f t l : Int32) (bb : Nat → Int32) : pFin op l bb (1, r, n, f, t, 1) = some (0, op, r, n, f, t, 1) := by
  unfold pFin
  rw [if_neg (show ¬ (1 : Int32) = 0 by decide)]
  exact p_119B _ _ _ _ _ _ _ _ _
theorem p_finR {r : Int32} (h : ¬ ∃ k, k < 8 ∧ r = nI k) (op n f t l b : Int32) (hb : b = 0 ∨ b = 1) (bb : Nat → Int32) : pFin op l bb (1, r, n, f, t, b) = some (0, op, r, n, f, t, b) := by
  rcases hb with rfl | rfl
  · unfold pFin
    rw [if_neg (show ¬ (1 : Int32) = 0 by decide)]
    exact p_119R h _ _ _ _ _ _ _ _
  · exact p_finB _ _ _ _ _ _ _
theorem p_reg2 (mb : Nat → Int32) {a L : Nat} (ha : a ≤ L) (hL : L ≤ 512) {b w b' : Int32} {a' : Nat} (h : f_Md_leb (nI a) (nI L) b mb 0 = some (w, nI a', b')) : (b' = 0 ∧ (∃ k, k < 8 ∧ w = nI k) ∧ f_Md_register_ (nI a) (nI L) b mb = some (w, nI a', 0)) ∨ ((b' ≠ 0 ∨ ¬ ∃ k, k < 8 ∧ w = nI k) ∧ f_Md_register_ (nI a) (nI L) b mb = some (w, nI a', 1)) := by
  have e := p_Mreg mb ha hL b h
  by_cases hb : b' = 0
  · rcases p_in8 w with ⟨k, hk, rfl⟩ | ⟨-, z⟩
    · rw [p_win8 hk, if_pos ⟨hb, rfl⟩] at e
      exact Or.inl ⟨hb, ⟨k, hk, rfl⟩, e⟩
    · rw [p_win8n z, if_neg (fun z => absurd z.2 (by decide))] at e
      exact Or.inr ⟨Or.inr z, e⟩
  · rw [if_neg (fun z => hb z.1)] at e
    exact Or.inr ⟨Or.inl hb, e⟩
def pRleb (g : Int32) (t l b : Int32) (bb : Nat → Int32) : Option (Int32 × Int32 × Int32) := if g = 0 then f_Rd_uleb t l b bb else f_Rd_sleb t l b bb
theorem p_rleb {mb bb : Nat → Int32} (hB : pB mb bb) {a L : Nat} (ha : a ≤ L) (hL : L ≤ 512) {g : Int32} (hg : g = 0 ∨ g = 1) : pRleb g (nI a) (nI L) 0 bb = f_Md_leb (nI a) (nI L) 0 mb g := by
  rcases hg with rfl | rfl
  · exact (if_pos rfl).trans (p_uleb hB ha hL)
  · exact (if_neg (by decide)).trans (p_sleb hB ha hL)
theorem p_rlebB {g : Int32} (t l : Int32) (bb : Nat → Int32) : pRleb g t l 1 bb = some (0, t, 1) := by
  unfold pRleb
  split
  · exact p_ulebB _ _ _
  · exact p_slebB _ _ _
theorem p_Mleb1 (mb : Nat → Int32) {a L : Nat} (ha : a ≤ L) (hL : L ≤ 512) (g : Int32) : ∃ (w : Int32) (a' : Nat), f_Md_leb (nI a) (nI L) 1 mb g = some (w, nI a', 1) ∧ a ≤ a' ∧ a' ≤ L := by
  obtain ⟨w, a', b', h1, h2, h3, h4⟩ := p_Mleb mb ha hL g 1
  obtain rfl : b' = 1 := by rcases h4 with h | h <;> exact h
  exact ⟨w, a', h1, h2, h3⟩
/-- a register, then a number -/
theorem p_A {mb bb : Nat → Int32} (hB : pB mb bb) {a L : Nat} (ha : a ≤ L) (hL : L ≤ 512) (op f : Int32) {β : Type} {g : Int32} (hg : g = 0 ∨ g = 1) :
    (∃ (k : Nat) (n : Int32) (a1 : Nat) (x y : Int32), k < 8 ∧ a ≤ a1 ∧ a1 ≤ L ∧ ((f_Rd_uleb (nI a) (nI L) 0 bb).bind fun q => ((pRleb g q.2.1 (nI L) q.2.2 bb).bind fun u => some (1, q.1, u.1, f, u.2.1, u.2.2))).bind (pFin op (nI L) bb) = some (1, op, nI k, n, f, nI a1, 0) ∧ ∀ K : Int32 × Int32 × Int32 → Int32 × Int32 × Int32 → Option β, ((f_Md_register_ (nI a) (nI L) 0 mb).bind fun q => ((f_Md_leb q.2.1 (nI L) q.2.2 mb g).bind fun u => K u q)) = K (n, nI a1, 0) (nI k, x, y)) ∨
    (∃ (r n b : Int32) (a1 a2 : Nat) (w r2 x y : Int32), a ≤ a1 ∧ a1 ≤ L ∧ a ≤ a2 ∧ a2 ≤ L ∧ ((f_Rd_uleb (nI a) (nI L) 0 bb).bind fun q => ((pRleb g q.2.1 (nI L) q.2.2 bb).bind fun u => some (1, q.1, u.1, f, u.2.1, u.2.2))).bind (pFin op (nI L) bb) = some (0, op, r, n, f, nI a1, b) ∧ ∀ K : Int32 × Int32 × Int32 → Int32 × Int32 × Int32 → Option β, ((f_Md_register_ (nI a) (nI L) 0 mb).bind fun q => ((f_Md_leb q.2.1 (nI L) q.2.2 mb g).bind fun u => K u q)) = K (w, nI a2, 1) (r2, x, y)) := by
  obtain ⟨w, a', b', h1, h2, h3, h4⟩ := p_Mleb mb ha hL 0 0
  rw [p_uleb hB ha hL, h1, Option.bind_some]
  dsimp only
  rcases p_reg2 mb ha hL h1 with ⟨rfl, ⟨k, hk, rfl⟩, hr⟩ | ⟨hx, hr⟩
  · rw [p_rleb hB h3 hL hg]
    obtain ⟨w2, a2, b2, g1, g2, g3, g4⟩ := p_Mleb mb h3 hL g 0
    rw [g1, Option.bind_some, Option.bind_some]
    rcases g4 with rfl | rfl
    · refine Or.inl ⟨k, w2, a2, nI a', 0, hk, by omega, g3, p_fin hk _ _ _ _ _ _, fun K => ?_⟩
      rw [hr, Option.bind_some]
      dsimp only
      rw [g1, Option.bind_some]
    · refine Or.inr ⟨nI k, w2, 1, a2, a2, w2, nI k, nI a', 0, by omega, g3, by omega, g3, p_finB _ _ _ _ _ _ _, fun K => ?_⟩
      rw [hr, Option.bind_some]
      dsimp only
      rw [g1, Option.bind_some]
  · obtain ⟨w3, a3, e1, e2, e3⟩ := p_Mleb1 mb h3 hL g
    have hM : ∀ K : Int32 × Int32 × Int32 → Int32 × Int32 × Int32 → Option β, ((f_Md_register_ (nI a) (nI L) 0 mb).bind fun q => ((f_Md_leb q.2.1 (nI L) q.2.2 mb g).bind fun u => K u q)) = K (w3, nI a3, 1) (w, nI a', 1) := fun K => by
      rw [hr, Option.bind_some]
      dsimp only
      rw [e1, Option.bind_some]
    rcases h4 with rfl | rfl
    · have hx2 : ¬ ∃ k, k < 8 ∧ w = nI k := by rcases hx with z | z; exact absurd rfl z; exact z
      rw [p_rleb hB h3 hL hg]
      obtain ⟨w2, a2, b2, g1, g2, g3, g4⟩ := p_Mleb mb h3 hL g 0
      rw [g1, Option.bind_some, Option.bind_some]
      exact Or.inr ⟨w, w2, b2, a2, a3, w3, w, nI a', 1, by omega, g3, by omega, e3, p_finR hx2 _ _ _ _ _ _ g4 _, hM⟩
    · rw [p_rlebB, Option.bind_some, Option.bind_some]
      exact Or.inr ⟨w, 0, 1, a', a3, w3, w, nI a', 1, h2, h3, by omega, e3, p_finB _ _ _ _ _ _ _, hM⟩
/-- a register alone -/
theorem p_Bf {mb bb : Nat → Int32} (hB : pB mb bb) {a L : Nat} (ha : a ≤ L) (hL : L ≤ 512) (op f : Int32) (n : Int32) :
    (∃ (k a1 : Nat), k < 8 ∧ a ≤ a1 ∧ a1 ≤ L ∧ ((f_Rd_uleb (nI a) (nI L) 0 bb).bind fun q => some (1, q.1, n, f, q.2.1, q.2.2)).bind (pFin op (nI L) bb) = some (1, op, nI k, n, f, nI a1, 0) ∧ f_Md_register_ (nI a) (nI L) 0 mb = some (nI k, nI a1, 0)) ∨
    (∃ (r b : Int32) (a1 : Nat), a ≤ a1 ∧ a1 ≤ L ∧ ((f_Rd_uleb (nI a) (nI L) 0 bb).bind fun q => some (1, q.1, n, f, q.2.1, q.2.2)).bind (pFin op (nI L) bb) = some (0, op, r, n, f, nI a1, b) ∧ f_Md_register_ (nI a) (nI L) 0 mb = some (r, nI a1, 1)) := by
  obtain ⟨w, a', b', h1, h2, h3, h4⟩ := p_Mleb mb ha hL 0 0
  rw [p_uleb hB ha hL, h1, Option.bind_some, Option.bind_some]
  rcases p_reg2 mb ha hL h1 with ⟨rfl, ⟨k, hk, rfl⟩, hr⟩ | ⟨hx, hr⟩
  · exact Or.inl ⟨k, a', hk, h2, h3, p_fin hk _ _ _ _ _ _, hr⟩
  · rcases h4 with rfl | rfl
    · have hx2 : ¬ ∃ k, k < 8 ∧ w = nI k := by rcases hx with z | z; exact absurd rfl z; exact z
      exact Or.inr ⟨w, 0, a', h2, h3, p_finR hx2 _ _ _ _ _ _ (Or.inl rfl) _, hr⟩
    · exact Or.inr ⟨w, 1, a', h2, h3, p_finB _ _ _ _ _ _ _, hr⟩
