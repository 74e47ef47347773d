theorem l_ti {n : Nat} (h : n < 2 ^ 64) : (lN n).toInt = if n < 2 ^ 63 then (n : Int) else (n : Int) - 2 ^ 64 := by
  show (BitVec.ofNat 64 n).toInt = _
  rw [BitVec.toInt_eq_toNat_cond, BitVec.toNat_ofNat, Nat.mod_eq_of_lt h]
  by_cases h1 : n < 2 ^ 63
  · rw [if_pos h1, if_pos (by omega)]
  · rw [if_neg h1, if_neg (by omega)]
    rfl
theorem nsg_2 {n : Nat} (h : n < 2 ^ 64) (b : Int64) : (n_signed 2 (lN n) b).toInt = if (0 : Int64) ≤ b then ((n % 2 ^ 31 : Nat) : Int) else ((n % 2 ^ 31 : Nat) : Int) - 2 ^ 31 := by
  have hm : n % 2 ^ 31 < 2 ^ 31 := Nat.mod_lt _ (by decide)
  have hp : lN n &&& (2147483647 : Int64) = lN (n % 2 ^ 31) := wb_mask (k := 31) h (by decide)
  unfold n_signed
  rw [bits_2]
  by_cases hb : (0 : Int64) ≤ b
  · rw [if_pos hb, if_pos hb, hp, pk_lT (by omega)]
  · rw [if_neg hb, if_neg hb]
    have e : lN n ||| ((2147483647 : Int64) ^^^ (-1)) = (lN n &&& 2147483647) + (-2147483648) := by
      apply wb_inj
      have e1 : ((2147483647 : Int64) ^^^ (-1)).toBitVec = ~~~ 2147483647#64 := by decide
      have e2 : (-2147483648 : Int64).toBitVec = ~~~ 2147483647#64 := by decide
      have e3 : (2147483647 : Int64).toBitVec = 2147483647#64 := by decide
      rw [Int64.toBitVec_or, e1, Int64.toBitVec_add, Int64.toBitVec_and, e2, e3, bv_c]
    rw [e, hp, Int64.toInt_add, pk_lT (by omega), show (-2147483648 : Int64).toInt = -2147483648 from by decide, Int.bmod_eq_of_le (by omega) (by omega)]
    omega
theorem nsg_3 {n : Nat} (h : n < 2 ^ 64) (b : Int64) : (n_signed 3 (lN n) b).toInt = if (0 : Int64) ≤ b then ((n % 2 ^ 63 : Nat) : Int) else ((n % 2 ^ 63 : Nat) : Int) - 2 ^ 63 := by
  have hm : n % 2 ^ 63 < 2 ^ 63 := Nat.mod_lt _ (by decide)
  have hp : lN n &&& (9223372036854775807 : Int64) = lN (n % 2 ^ 63) := wb_mask (k := 63) h (by decide)
  unfold n_signed
  rw [bits_n (by decide)]
  by_cases hb : (0 : Int64) ≤ b
  · rw [if_pos hb, if_pos hb, hp, pk_lT (by omega)]
  · rw [if_neg hb, if_neg hb]
    have e : lN n ||| ((9223372036854775807 : Int64) ^^^ (-1)) = (lN n &&& 9223372036854775807) + (-9223372036854775808) := by
      apply wb_inj
      have e1 : ((9223372036854775807 : Int64) ^^^ (-1)).toBitVec = ~~~ 9223372036854775807#64 := by decide
      have e2 : (-9223372036854775808 : Int64).toBitVec = ~~~ 9223372036854775807#64 := by decide
      have e3 : (9223372036854775807 : Int64).toBitVec = 9223372036854775807#64 := by decide
      rw [Int64.toBitVec_or, e1, Int64.toBitVec_add, Int64.toBitVec_and, e2, e3, bv_c]
    rw [e, hp, Int64.toInt_add, pk_lT (by omega), show (-9223372036854775808 : Int64).toInt = -9223372036854775808 from by decide, Int.bmod_eq_of_le (by omega) (by omega)]
    omega
theorem IR_signed (a b : Int64) : IR 2 (n_signed 2 a b) := by
  intro _
  obtain ⟨n, hn, rfl⟩ := wb_of a
  have hm : n % 2 ^ 31 < 2 ^ 31 := Nat.mod_lt _ (by decide)
  have h := nsg_2 hn b
  refine of_int ?_ ?_
  · rw [h]; split <;> omega
  · rw [h]; split <;> omega
theorem plain_2 {n : Nat} (h : n < 2 ^ 64) : m_plain 2 (lN n) = lN (n % 2 ^ 31) := by
  rw [plain_eq, bits_2]
  exact wb_mask (k := 31) h (by decide)
theorem plain_3 {n : Nat} (h : n < 2 ^ 64) : m_plain 3 (lN n) = lN (n % 2 ^ 63) := by
  rw [plain_eq, bits_n (by decide)]
  exact wb_mask (k := 63) h (by decide)
theorem z_ti : (0 : Int64).toInt = 0 := by decide
theorem le0_iff {n : Nat} (h : n < 2 ^ 64) : (0 : Int64) ≤ lN n ↔ n < 2 ^ 63 := by
  rw [Int64.le_iff_toInt_le, z_ti, l_ti h]
  by_cases h3 : n < 2 ^ 63
  · rw [if_pos h3]; omega
  · rw [if_neg h3]; omega
theorem sv_2 {n : Nat} (h : n < 2 ^ 64) (hr : (-2147483648 : Int64) ≤ lN n ∧ lN n ≤ 2147483647) : n_signed 2 (lN (n % 2 ^ 31)) (lN n) = lN n := by
  obtain ⟨h1, h2⟩ := int_of hr
  have hm : n % 2 ^ 31 < 2 ^ 31 := Nat.mod_lt _ (by decide)
  apply Int64.toInt_inj.mp
  rw [nsg_2 (by omega)]
  rw [l_ti h] at h1 h2 ⊢
  by_cases h3 : n < 2 ^ 63
  · rw [if_pos h3] at h1 h2 ⊢
    rw [if_pos ((le0_iff h).mpr h3)]
    omega
  · rw [if_neg h3] at h1 h2 ⊢
    rw [if_neg (fun q => h3 ((le0_iff h).mp q))]
    omega
theorem sv_3 {n : Nat} (h : n < 2 ^ 64) : n_signed 3 (lN (n % 2 ^ 63)) (lN n) = lN n := by
  have hm : n % 2 ^ 63 < 2 ^ 63 := Nat.mod_lt _ (by decide)
  apply Int64.toInt_inj.mp
  rw [nsg_3 (by omega)]
  rw [l_ti h]
  by_cases h3 : n < 2 ^ 63
  · rw [if_pos h3]
    rw [if_pos ((le0_iff h).mpr h3)]
    omega
  · rw [if_neg h3]
    rw [if_neg (fun q => h3 ((le0_iff h).mp q))]
    omega
theorem size_p {k : Int32} (hk : k = 2 ∨ k = 3) (v : Int64) : n_sizeOf k v = m_plain k v := by
  rw [plain_eq]
  unfold n_sizeOf
  rcases hk with rfl | rfl
  · rw [if_neg (by decide), if_neg (by decide)]
  · rw [if_neg (by decide), if_neg (by decide)]
theorem one_eq {k : Int32} (hk : k = 2 ∨ k = 3) : n_oneOf k = m_one k ∧ m_plain k (m_one k) = m_one k := by
  rcases hk with rfl | rfl <;> decide
theorem whole_eq {k way : Int32} {v : Int64} (hk : k = 2 ∨ k = 3) (hw : way = 1 ∨ way = 2 ∨ way = 3) (hv : IR k v) (h0 : ¬ m_plain k v = 0) : n_signed k (n_wholeSize k v way) v = m_whole k v way := by
  obtain ⟨n, hn, rfl⟩ := wb_of v
  rcases hk with rfl | rfl
  · have hm : n % 2 ^ 31 < 2 ^ 31 := Nat.mod_lt _ (by decide)
    refine whole_core (A := n % 2 ^ 31) (P := 23) (B := 127) hw (plain_2 hn) (by omega) (by rw [size_p (Or.inl rfl), plain_2 hn]) (by decide) (by decide) (by decide) (by decide) (by decide) (by decide) (by decide) (by decide) (by decide) (by decide) (by omega) (by decide) (fun S hS => ?_) (sv_2 hn (hv (Or.inr rfl))) (fun q => h0 ?_)
    · rw [plain_2 (by omega), Nat.mod_eq_of_lt (by omega)]
    · rw [plain_2 hn, q]
      rfl
  · have hm : n % 2 ^ 63 < 2 ^ 63 := Nat.mod_lt _ (by decide)
    refine whole_core (A := n % 2 ^ 63) (P := 52) (B := 1023) hw (plain_3 hn) (by omega) (by rw [size_p (Or.inr rfl), plain_3 hn]) (by decide) (by decide) (by decide) (by decide) (by decide) (by decide) (by decide) (by decide) (by decide) (by decide) (by omega) (by decide) (fun S hS => ?_) (sv_3 hn) (fun q => h0 ?_)
    · rw [plain_3 (by omega), Nat.mod_eq_of_lt (by omega)]
    · rw [plain_3 hn, q]
      rfl
theorem whole_0 {k way : Int32} {v : Int64} (h0 : m_plain k v = 0) : m_whole k v way = v := by
  unfold m_whole m_whole_1 m_whole_2 m_whole_3 m_whole_4
  rw [if_pos h0]
theorem turned_eq {k way : Int32} {v : Int64} (hk : okK k) (hv : IR k v) (hf : way = 0 ∨ ((k = 2 ∨ k = 3) ∧ (way = 1 ∨ way = 2 ∨ way = 3 ∨ way = 4))) : n_turned k v way = m_turned k v way := by
  unfold n_turned m_turned
  rcases hf with rfl | ⟨hr, hw⟩
  · rw [if_pos rfl, if_pos rfl, size_eq hk hv]
  · have hw0 : ¬ way = 0 := by rcases hw with rfl | rfl | rfl | rfl <;> decide
    rw [if_neg hw0, if_neg hw0, size_p hr]
    by_cases h0 : m_plain k v = 0
    · rw [if_pos h0, whole_0 h0]
      by_cases h4 : (4 : Int32) ≤ way
      · rw [if_pos h4, if_pos h0]
      · rw [if_neg h4]
    · rw [if_neg h0]
      by_cases h4 : way = 4
      · rw [if_pos h4, if_pos (by rw [h4]; decide), if_neg h0, signed_eq, (one_eq hr).1, (one_eq hr).2]
      · have hw3 : way = 1 ∨ way = 2 ∨ way = 3 := by
          rcases hw with h | h | h | h
          · exact Or.inl h
          · exact Or.inr (Or.inl h)
          · exact Or.inr (Or.inr h)
          · exact absurd h h4
        rw [if_neg h4, if_neg (by rcases hw3 with rfl | rfl | rfl <;> decide)]
        exact whole_eq hr hw3 hv h0
theorem IR_size {k : Int32} {v : Int64} (hk : okK k) : IR k (n_sizeOf k v) := by
  intro h
  rcases h with rfl | rfl
  · unfold n_sizeOf
    rw [if_pos rfl]
    generalize (if 0 ≤ v.toInt32 then v.toInt32 else 0 - v.toInt32) = x
    have h1 := Int32.le_toInt x
    have h2 := Int32.toInt_lt x
    refine of_int ?_ ?_ <;> rw [Int32.toInt_toInt64] <;> omega
  · obtain ⟨n, hn, rfl⟩ := wb_of v
    have hm : n % 2 ^ 31 < 2 ^ 31 := Nat.mod_lt _ (by decide)
    rw [size_p (Or.inl rfl), plain_2 hn]
    refine of_int ?_ ?_ <;> rw [pk_lT (by omega)] <;> omega
theorem IR_turned {k way : Int32} {v : Int64} (hk : okK k) (hv : IR k v) (hf : way = 0 ∨ ((k = 2 ∨ k = 3) ∧ (way = 1 ∨ way = 2 ∨ way = 3 ∨ way = 4))) : IR k (n_turned k v way) := by
  unfold n_turned
  rcases hf with rfl | ⟨hr, hw⟩
  · rw [if_pos rfl]
    exact IR_size hk
  · rcases hr with rfl | rfl
    · split
      · exact IR_size hk
      · split
        · exact hv
        · split
          · exact IR_signed _ _
          · exact IR_signed _ _
    · intro h
      exact absurd h (by decide)
theorem IR_greater {k : Int32} {a b : Int64} (ha : IR k a) (hb : IR k b) : IR k (n_greater k a b) := by
  unfold n_greater
  split
  · exact hb
  · exact ha
theorem IR_less {k : Int32} {a b : Int64} (ha : IR k a) (hb : IR k b) : IR k (n_less k a b) := by
  unfold n_less
  split
  · exact hb
  · exact ha
theorem IR_fitted {k : Int32} {a b c : Int64} (ha : IR k a) (hb : IR k b) (hc : IR k c) : IR k (n_fitted k a b c) := IR_greater ha (IR_less hb hc)
/-- what a rod gives is a number of its dials' kind -/
theorem IR_gift {kd : Nat → Int32} {vl : Nat → Int64} {s a b : Int32} (hk : ∀ j, okK (kd j)) (hv : ∀ j, IR (kd j) (vl j)) (he : kd a.toNatClampNeg = kd b.toNatClampNeg) (hs : s = 2 → kd a.toNatClampNeg = 2 ∨ kd a.toNatClampNeg = 3) : IR (kd b.toNatClampNeg) (x_gift kd vl s a b) := by
  have ha := hv a.toNatClampNeg
  have hb := hv b.toNatClampNeg
  rw [← he] at hb ⊢
  unfold x_gift
  split
  · exact IR_greater ha hb
  · split
    · exact IR_less ha hb
    · split
      · rename_i h2
        rcases hs h2 with h | h
        · rw [h]
          exact IR_signed _ _
        · rw [h]
          intro q
          exact absurd q (by decide)
      · exact IR_size (hk _)
theorem IR_number {k : Int32} {v : Int64} (hk : okK k) (h : ¬ n_isOfKind k v = 0) : IR k v := by
  rw [number_eq hk] at h
  intro q
  have hi : ¬ m_isInt v = 0 := by
    intro z
    apply h
    unfold m_isNumber
    rcases q with rfl | rfl
    · rw [if_neg (by decide), if_neg (by decide), if_pos z]
    · rw [if_neg (by decide), if_neg (by decide), if_pos z]
  unfold m_isInt at hi
  by_cases h1 : v < -2147483648
  · rw [if_pos h1] at hi
    exact absurd rfl hi
  · rw [if_neg h1] at hi
    by_cases h2 : (2147483647 : Int64) < v
    · rw [if_pos h2] at hi
      exact absurd rfl hi
    · exact ⟨Int64.not_lt.mp h1, Int64.not_lt.mp h2⟩
theorem IR_0 (k : Int32) : IR k 0 := fun _ => ⟨by decide, by decide⟩
