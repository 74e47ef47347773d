def okK (k : Int32) : Prop := k = 0 ∨ k = 1 ∨ k = 2 ∨ k = 3
def IR (k : Int32) (v : Int64) : Prop := k = 0 ∨ k = 2 → (-2147483648 : Int64) ≤ v ∧ v ≤ 2147483647
theorem isReal_eq {k : Int32} (h : okK k) : n_isReal k = m_isReal k := by
  rcases h with rfl | rfl | rfl | rfl <;> decide
theorem bits_2 : n_sizeBits 2 = 2147483647 := by decide
theorem bits_n {k : Int32} (h : ¬ k = 2) : n_sizeBits k = 9223372036854775807 := by
  unfold n_sizeBits
  rw [if_neg h]
theorem rank_eq {k : Int32} (h : okK k) (v : Int64) : n_rank k v = m_rank k v := by
  unfold n_rank m_rank
  rw [isReal_eq h]
  by_cases h1 : m_isReal k = 0
  · rw [if_pos h1, if_pos h1]
  · rw [if_neg h1, if_neg h1]
    by_cases h2 : v < 0
    · rw [if_neg (Int64.not_le.mpr h2), if_pos h2]
      by_cases h3 : k = 2
      · rw [if_pos h3, h3, bits_2]
      · rw [if_neg h3, bits_n h3]
    · rw [if_pos (Int64.not_lt.mp h2), if_neg h2]
theorem cmp_lt {k : Int32} {a b : Int64} : n_compared k a b < 0 ↔ n_rank k a < n_rank k b := by
  unfold n_compared
  by_cases h1 : n_rank k a ≤ n_rank k b
  · rw [if_pos h1]
    by_cases h2 : n_rank k b ≤ n_rank k a
    · rw [if_pos h2]
      exact ⟨fun h => absurd h (by decide), fun h => absurd h (Int64.not_lt.mpr h2)⟩
    · rw [if_neg h2]
      exact ⟨fun _ => Int64.not_le.mp h2, fun _ => by decide⟩
  · rw [if_neg h1]
    exact ⟨fun h => absurd h (by decide), fun h => absurd (Int64.not_le.mp h1) (fun q => Int64.lt_irrefl (Int64.lt_trans h q))⟩
theorem cmp_gt {k : Int32} {a b : Int64} : 0 < n_compared k a b ↔ n_rank k b < n_rank k a := by
  unfold n_compared
  by_cases h1 : n_rank k a ≤ n_rank k b
  · rw [if_pos h1]
    by_cases h2 : n_rank k b ≤ n_rank k a
    · rw [if_pos h2]
      exact ⟨fun h => absurd h (by decide), fun h => absurd h (Int64.not_lt.mpr h1)⟩
    · rw [if_neg h2]
      exact ⟨fun h => absurd h (by decide), fun h => absurd h (Int64.not_lt.mpr h1)⟩
  · rw [if_neg h1]
    exact ⟨fun _ => Int64.not_le.mp h1, fun _ => by decide⟩
theorem above_0 {k : Int32} {a b : Int64} : m_isAbove k a b = 0 ↔ m_rank k a ≤ m_rank k b := by
  unfold m_isAbove
  by_cases h1 : m_rank k a ≤ m_rank k b
  · rw [if_pos h1]
    exact ⟨fun _ => h1, fun _ => rfl⟩
  · rw [if_neg h1]
    exact ⟨fun h => absurd h (by decide), fun h => absurd h h1⟩
theorem greater_eq {k : Int32} (h : okK k) (a b : Int64) : n_greater k a b = m_greater k a b := by
  unfold n_greater m_greater
  by_cases h1 : m_rank k b ≤ m_rank k a
  · rw [if_pos (above_0.mpr h1), if_neg (fun q => absurd (cmp_lt.mp q) (by rw [rank_eq h, rank_eq h]; exact Int64.not_lt.mpr h1))]
  · rw [if_neg (fun q => h1 (above_0.mp q)), if_pos (cmp_lt.mpr (by rw [rank_eq h, rank_eq h]; exact Int64.not_le.mp h1))]
theorem less_eq {k : Int32} (h : okK k) (a b : Int64) : n_less k a b = m_less k a b := by
  unfold n_less m_less
  by_cases h1 : m_rank k a ≤ m_rank k b
  · rw [if_pos (above_0.mpr h1), if_neg (fun q => absurd (cmp_gt.mp q) (by rw [rank_eq h, rank_eq h]; exact Int64.not_lt.mpr h1))]
  · rw [if_neg (fun q => h1 (above_0.mp q)), if_pos (cmp_gt.mpr (by rw [rank_eq h, rank_eq h]; exact Int64.not_le.mp h1))]
theorem fit_eq {kd : Nat → Int32} {lo hi : Nat → Int64} {d : Int32} {v : Int64} (h : okK (kd d.toNatClampNeg)) : x_fit kd lo hi d v = m_fitted kd lo hi d v := by
  unfold x_fit n_fitted m_fitted
  rw [less_eq h, greater_eq h]
theorem w_int_iff (v : Int64) : v = v.toInt32.toInt64 ↔ (¬ v < -2147483648 ∧ ¬ 2147483647 < v) := by
  rw [← Int64.toInt_inj, Int32.toInt_toInt64, Int64.toInt_toInt32, Int64.lt_iff_toInt_lt, Int64.lt_iff_toInt_lt]
  have e0 : (-2147483648 : Int64).toInt = -2147483648 := by decide
  have e1 : (2147483647 : Int64).toInt = 2147483647 := by decide
  rw [e0, e1]
  have h0 := Int64.le_toInt v
  have h1 := Int64.toInt_lt v
  rw [Int.bmod_def]
  split <;> omega
theorem w_isInt_iff (v : Int64) : m_isInt v = 0 ↔ ¬ v = v.toInt32.toInt64 := by
  rw [w_int_iff]
  unfold m_isInt
  by_cases h1 : v < -2147483648
  · rw [if_pos h1]
    exact ⟨fun _ h => h.1 h1, fun _ => rfl⟩
  · rw [if_neg h1]
    by_cases h2 : (2147483647 : Int64) < v
    · rw [if_pos h2]
      exact ⟨fun _ h => h.2 h2, fun _ => rfl⟩
    · rw [if_neg h2]
      exact ⟨fun h => absurd h (by decide), fun h => absurd ⟨h1, h2⟩ h⟩
theorem number_eq {k : Int32} (h : okK k) (v : Int64) : n_isOfKind k v = m_isNumber k v := by
  have e := w_isInt_iff v
  unfold n_isOfKind m_isNumber
  by_cases h1 : v = v.toInt32.toInt64
  · rw [if_pos h1, if_neg (c := m_isInt v = 0) (fun q => e.mp q h1)]
    rcases h with rfl | rfl | rfl | rfl
    · simp
    · simp
    · simp
    · simp
  · rw [if_neg h1, if_pos (c := m_isInt v = 0) (e.mpr h1)]
    rcases h with rfl | rfl | rfl | rfl
    · simp
    · simp
    · simp
    · simp
theorem plain_eq (k : Int32) (a : Int64) : m_plain k a = a &&& n_sizeBits k := by
  unfold m_plain
  by_cases h : k = 2
  · rw [if_pos h, h, bits_2]
  · rw [if_neg h, bits_n h]
theorem signed_eq (k : Int32) (a b : Int64) : n_signed k a b = m_signed k (m_plain k a) b := by
  unfold n_signed m_signed
  rw [plain_eq]
  by_cases h1 : b < 0
  · rw [if_neg (Int64.not_le.mpr h1), if_pos h1]
    by_cases h2 : k = 2
    · rw [if_pos h2, h2, bits_2]
      apply wb_inj
      have e := bv_c a.toBitVec 2147483647#64
      have e1 : ((2147483647 : Int64) ^^^ (-1)).toBitVec = ~~~ 2147483647#64 := by decide
      have e2 : (2147483648 : Int64).toBitVec = - ~~~ 2147483647#64 := by decide
      have e3 : (2147483647 : Int64).toBitVec = 2147483647#64 := by decide
      rw [Int64.toBitVec_or, e1, e, Int64.toBitVec_sub, Int64.toBitVec_and, e2, e3, BitVec.sub_eq_add_neg, BitVec.neg_neg]
    · rw [if_neg h2, bits_n h2]
      apply wb_inj
      have e1 : ((9223372036854775807 : Int64) ^^^ (-1)).toBitVec = ~~~ 9223372036854775807#64 := by decide
      have e2 : (-9223372036854775808 : Int64).toBitVec = ~~~ 9223372036854775807#64 := by decide
      have e3 : (9223372036854775807 : Int64).toBitVec = 9223372036854775807#64 := by decide
      rw [Int64.toBitVec_or, e1, Int64.toBitVec_or, Int64.toBitVec_and, e2, e3, bv_a]
  · rw [if_pos (Int64.not_lt.mp h1), if_neg h1]
theorem int_of {v : Int64} (h : (-2147483648 : Int64) ≤ v ∧ v ≤ 2147483647) : -2147483648 ≤ v.toInt ∧ v.toInt ≤ 2147483647 := by
  obtain ⟨h1, h2⟩ := h
  rw [Int64.le_iff_toInt_le] at h1 h2
  have e1 : (-2147483648 : Int64).toInt = -2147483648 := by decide
  have e2 : (2147483647 : Int64).toInt = 2147483647 := by decide
  rw [e1] at h1
  rw [e2] at h2
  exact ⟨h1, h2⟩
theorem of_int {v : Int64} (h1 : -2147483648 ≤ v.toInt) (h2 : v.toInt ≤ 2147483647) : (-2147483648 : Int64) ≤ v ∧ v ≤ 2147483647 := by
  have e1 : (-2147483648 : Int64).toInt = -2147483648 := by decide
  have e2 : (2147483647 : Int64).toInt = 2147483647 := by decide
  rw [Int64.le_iff_toInt_le, Int64.le_iff_toInt_le, e1, e2]
  exact ⟨h1, h2⟩
theorem abs_eq {v : Int64} (h : (-2147483648 : Int64) ≤ v ∧ v ≤ 2147483647) : (if 0 ≤ v.toInt32 then v.toInt32 else 0 - v.toInt32).toInt64 = if (0 : Int64) ≤ v then v else if v = -2147483648 then v else -v := by
  obtain ⟨h1, h2⟩ := int_of h
  have e32 : v.toInt32.toInt = v.toInt := by
    rw [Int64.toInt_toInt32]
    exact Int.bmod_eq_of_le (by omega) (by omega)
  have e0 : (0 : Int32).toInt = 0 := by decide
  have z0 : (0 : Int64).toInt = 0 := by decide
  by_cases h0 : (0 : Int64) ≤ v
  · have h0' : (0 : Int32) ≤ v.toInt32 := by
      rw [Int64.le_iff_toInt_le, z0] at h0
      rw [Int32.le_iff_toInt_le, e0, e32]
      exact h0
    rw [if_pos h0, if_pos h0']
    apply Int64.toInt_inj.mp
    rw [Int32.toInt_toInt64, e32]
  · have hv : v.toInt < 0 := by
      rw [Int64.le_iff_toInt_le, z0] at h0
      omega
    have h0' : ¬ (0 : Int32) ≤ v.toInt32 := by
      rw [Int32.le_iff_toInt_le, e0, e32]
      omega
    rw [if_neg h0, if_neg h0']
    by_cases hm : v = -2147483648
    · rw [if_pos hm, hm]
      decide
    · rw [if_neg hm]
      have hm' : v.toInt ≠ -2147483648 := fun q => hm (Int64.toInt_inj.mp (by rw [q]; decide))
      apply Int64.toInt_inj.mp
      rw [Int32.toInt_toInt64, Int32.toInt_sub, e0, e32, Int64.toInt_neg, Int.bmod_eq_of_le (by omega) (by omega), Int.bmod_eq_of_le (by omega) (by omega)]
      omega
theorem size_eq {k : Int32} {v : Int64} (h : okK k) (hv : IR k v) : n_sizeOf k v = m_sizeOf k v := by
  rcases h with rfl | rfl | rfl | rfl
  · unfold n_sizeOf m_sizeOf
    rw [if_pos rfl, abs_eq (hv (Or.inl rfl)), if_pos (show m_isReal 0 = 0 by decide)]
    obtain ⟨h1, h2⟩ := int_of (hv (Or.inl rfl))
    by_cases h0 : (0 : Int64) ≤ v
    · rw [if_pos h0, if_pos h0]
    · rw [if_neg h0, if_neg h0, if_pos rfl]
      by_cases hm : v = -2147483648
      · rw [if_pos hm, if_pos hm]
      · rw [if_neg hm, if_neg hm, if_neg]
        intro q
        rw [q] at h1
        exact absurd h1 (by decide)
  · unfold n_sizeOf m_sizeOf
    rw [if_neg (show ¬ (1 : Int32) = 0 by decide), if_pos (show (1 : Int32) = 1 from rfl), if_pos (show m_isReal 1 = 0 by decide)]
    by_cases h0 : (0 : Int64) < v
    · rw [if_pos h0, if_pos (Int64.le_of_lt h0)]
    · rw [if_neg h0]
      by_cases hz : (0 : Int64) ≤ v
      · have : v = 0 := Int64.le_antisymm (Int64.not_lt.mp h0) hz
        rw [if_pos hz, this]
        decide
      · rw [if_neg hz, if_neg (show ¬ (1 : Int32) = 0 by decide)]
        by_cases hm : v = -9223372036854775808
        · rw [if_pos hm, hm]
          decide
        · rw [if_neg hm]
  · unfold n_sizeOf m_sizeOf
    rw [if_neg (by decide), if_neg (by decide), if_neg (by decide), plain_eq]
  · unfold n_sizeOf m_sizeOf
    rw [if_neg (by decide), if_neg (by decide), if_neg (by decide), plain_eq]
theorem gift_eq {kd : Nat → Int32} {vl : Nat → Int64} {s a b : Int32} (hk : ∀ j, okK (kd j)) (hv : ∀ j, IR (kd j) (vl j)) : x_gift kd vl s a b = m_gives kd vl s a b := by
  unfold x_gift m_gives
  rw [greater_eq (hk _), less_eq (hk _), signed_eq, size_eq (hk _) (hv _)]
