theorem and_neg (x u : Int64) : x &&& (-u) = x - (x &&& (u - 1)) := by
  apply wb_inj
  rw [Int64.toBitVec_and, Int64.toBitVec_neg, Int64.toBitVec_sub, Int64.toBitVec_and, Int64.toBitVec_sub]
  have e : - u.toBitVec = ~~~ (u.toBitVec - (1 : Int64).toBitVec) := by
    have h := BitVec.neg_eq_not_add (u.toBitVec - (1 : Int64).toBitVec)
    have e1 : (1 : Int64).toBitVec = 1#64 := rfl
    rw [e1] at h ⊢
    have h2 : ~~~ (u.toBitVec - 1#64) = - (u.toBitVec - 1#64) - 1#64 := by rw [h, BitVec.add_sub_cancel]
    rw [h2, BitVec.neg_sub, BitVec.add_sub_cancel]
  rw [e, bv_f]
theorem aw_3 {k : Int32} {v : Int64} {x y : Int32} {s t : Int64} (hxy : x = y) (hs : n_signed k s v = m_signed k s v) (ht : n_signed k t v = m_signed k t v) : n_signed k (if x = 0 then s else t) v = m_signed k (if y = 0 then s else t) v := by
  subst hxy
  by_cases h : x = 0
  · rw [if_pos h, hs]
  · rw [if_neg h, ht]
theorem away_eq {v : Int64} {w x : Int32} (hw : w = 1 ∨ w = 2) : n_isAway v w x = if w = 1 then (if (0 : Int64) ≤ v then 0 else 1) else if v < 0 then 0 else 1 := by
  unfold n_isAway
  rcases hw with rfl | rfl
  · rfl
  · rfl
theorem odd_eq {A L : Nat} (hA : A < 2 ^ 63) (hL : L < 63) : lN (A - A % 2 ^ L) &&& lN (2 ^ L) = lN (A / 2 ^ L % 2 * 2 ^ L) := by
  have h2 := wb_lt2 hL
  have hp : 0 < 2 ^ L := Nat.two_pow_pos L
  have e : A - A % 2 ^ L = A / 2 ^ L * 2 ^ L := by
    have := Nat.div_add_mod A (2 ^ L)
    rw [Nat.mul_comm] at this
    omega
  rw [wb_and (by omega) (by omega), e]
  congr 1
  apply Nat.eq_of_testBit_eq
  intro i
  have ec : (A / 2 ^ L % 2 * 2 ^ L).testBit i = (decide (i = L) && (A / 2 ^ L).testBit 0) := by
    rcases Nat.mod_two_eq_zero_or_one (A / 2 ^ L) with h | h
    · rw [h, Nat.zero_mul, Nat.zero_testBit, Nat.testBit_zero, h]
      simp
    · rw [h, Nat.one_mul, Nat.testBit_two_pow, Nat.testBit_zero, h]
      simp [eq_comm]
  rw [ec, Nat.testBit_and, Nat.testBit_two_pow, Nat.testBit_mul_two_pow]
  by_cases hi : i = L
  · subst hi
    simp
  · simp [hi, show ¬ L = i from fun q => hi q.symm]
theorem whole_core {k way : Int32} {v : Int64} {A P B : Nat} (hw : way = 1 ∨ way = 2 ∨ way = 3) (hA : m_plain k v = lN A) (hA63 : A < 2 ^ 63) (hsz : n_sizeOf k v = lN A) (hone : n_oneOf k = lN (B * 2 ^ P)) (hone2 : m_one k = lN (B * 2 ^ P)) (hpl : n_placesOf k = nI P) (hdg : (if k = (2 : Int32) then (23 : Int32) else (52 : Int32)) = nI P) (hbi : (if k = (2 : Int32) then (127 : Int32) else (1023 : Int32)) = nI B) (hP1 : 1 ≤ P) (hP : P ≤ 52) (hB1 : 1 ≤ B) (hB : B ≤ 1023) (hB2 : B % 2 = 1) (hQ0 : A / 2 ^ P < 2048) (hB63 : (B + P + 1) * 2 ^ P ≤ 2 ^ 63) (hpn : ∀ S, S < (B + P + 1) * 2 ^ P → m_plain k (lN S) = lN S) (hsv : n_signed k (lN A) v = v) (hA0 : ¬ A = 0) : n_signed k (n_wholeSize k v way) v = m_whole k v way := by
  have sg : ∀ S, S < (B + P + 1) * 2 ^ P → n_signed k (lN S) v = m_signed k (lN S) v := fun S h => by rw [signed_eq, hpn S h]
  have hp : 0 < 2 ^ P := Nat.two_pow_pos P
  have hBP : B * 2 ^ P + (P + 1) * 2 ^ P = (B + P + 1) * 2 ^ P := by rw [← Nat.add_mul, Nat.add_assoc]
  have hP2 : 2 ^ P ≤ (P + 1) * 2 ^ P := Nat.le_mul_of_pos_left _ (by omega)
  have hW : n_wholeSize k v way = n_wholeSize_3 k v way (nI P) (lN A) (lN (B * 2 ^ P)) := by
    unfold n_wholeSize n_wholeSize_1 n_wholeSize_2
    rw [hpl, hsz, hone]
  have hM : m_whole k v way = m_whole_4 k v way (lN A) (nI P) (nI B) (nI (A / 2 ^ P) - nI B) := by
    unfold m_whole m_whole_1 m_whole_2 m_whole_3
    rw [hA, hdg, hbi, ar_shr (by omega) hA63, lN_i]
  rw [hW, hM]
  have hbq : B * 2 ^ P ≤ A ↔ B ≤ A / 2 ^ P := (Nat.le_div_iff_mul_le hp).symm
  generalize hq : A / 2 ^ P = Q at *
  have eI : (nI Q - nI B).toInt = (Q : Int) - B := pk_sub_toInt (by omega) (by omega)
  have z32 : (0 : Int32).toInt = 0 := by decide
  unfold m_whole_4
  rw [if_neg (show ¬ lN A = 0 from fun q => hA0 ((pk_lEQ (b := 0) hA63 (by omega)).mp q))]
  unfold n_wholeSize_3
  by_cases h2 : B ≤ Q
  · -- at least one
    have hle : B * 2 ^ P ≤ A := hbq.mpr h2
    rw [if_pos (show lN (B * 2 ^ P) ≤ lN A from (pk_lLE (by omega) hA63).mpr hle), lN_sub hle, ar_shr (by omega) (by omega)]
    have ed : (A - B * 2 ^ P) / 2 ^ P = Q - B := by
      rw [Nat.mul_comm B, Nat.sub_mul_div, hq]
    rw [ed, pk_sub h2]
    unfold n_wholeSize_4
    rw [nI_l (by omega)]
    by_cases h1 : Q < B + P
    · rw [if_pos (show nI (Q - B) < nI P from (nI_ltI (by omega) (by omega)).mpr (by omega)), if_pos (show lN (Q - B) < lN P from (lN_lt (by omega) (by omega)).mpr (by omega))]
      unfold m_whole_5
      rw [if_pos (show (0 : Int32) ≤ nI (Q - B) from nI_pos' (by omega)), pk_sub (show Q - B ≤ P by omega), lN_sub (show Q - B ≤ P by omega), lN_i]
      obtain ⟨L, hL⟩ : ∃ L, L = P - (Q - B) := ⟨_, rfl⟩
      rw [← hL]
      have hLP : L ≤ P := by omega
      have hL1 : 1 ≤ L := by omega
      have hLp : 2 ^ L ≤ 2 ^ P := Nat.pow_le_pow_right (by decide) hLP
      have hL63 := wb_lt2 (show L < 63 by omega)
      have hl0 : 0 < 2 ^ L := Nat.two_pow_pos L
      have hu : (1 : Int64) <<< ((nI L).toInt64 &&& 63) = lN (2 ^ L) := by
        have := wb_shl 1 (k := L) (by omega)
        rw [Nat.one_mul] at this
        exact this
      have hm1 : lN (2 ^ L) - 1 = lN (2 ^ L - 1) := lN_sub (b := 1) hl0
      have hpt : lN A &&& lN (2 ^ L - 1) = lN (A % 2 ^ L) := wb_mask (by omega) (by omega)
      have hmod : A % 2 ^ L < 2 ^ L := Nat.mod_lt _ hl0
      have hmle : A % 2 ^ L ≤ A := Nat.mod_le _ _
      have hAlt : A < (B + P) * 2 ^ P := by rw [← Nat.div_lt_iff_lt_mul hp, hq]; exact h1
      have hBP1 : (B + P) * 2 ^ P + 2 ^ P = (B + P + 1) * 2 ^ P := by rw [Nat.add_mul (B + P) 1, Nat.one_mul]
      unfold m_whole_6 m_whole_7 m_whole_8 n_wholeSize_5 n_wholeSize_6 n_wholeSize_7
      rw [and_neg, hu, hm1, hpt, lN_sub hmle, lN_sub (Nat.sub_le _ _), show A - (A - A % 2 ^ L) = A % 2 ^ L by omega]
      by_cases hr : A % 2 ^ L = 0
      · rw [if_pos (show lN (A % 2 ^ L) = 0 by rw [hr]; rfl), if_pos (show lN (A % 2 ^ L) = 0 by rw [hr]; rfl)]
        exact hsv
      · have hr' : ¬ lN (A % 2 ^ L) = 0 := fun q => hr ((pk_lEQ (b := 0) (by omega) (by omega)).mp q)
        rw [if_neg hr', if_neg hr']
        have s1 := sg (A - A % 2 ^ L) (by omega)
        have s2 : n_signed k (lN (A - A % 2 ^ L) + lN (2 ^ L)) v = m_signed k (lN (A - A % 2 ^ L) + lN (2 ^ L)) v := by
          rw [lN_add]
          exact sg _ (by omega)
        unfold n_wholeSize_8 n_wholeSize_9 n_wholeSize_10
        by_cases h3 : way = 3
        · rw [if_pos h3]
          unfold m_whole_10 m_whole_11 m_whole_12 m_whole_13
          rw [hu]
          refine aw_3 ?_ s1 s2
          rw [h3]
          have hh1 : lN (2 ^ L) >>> ((1 : Int32).toInt64 &&& 63) = lN (2 ^ (L - 1)) := by
            have := ar_shr (a := 2 ^ L) (d := 1) (by decide) hL63
            rw [show 2 ^ L / 2 ^ 1 = 2 ^ (L - 1) from by
              rw [show L = (L - 1) + 1 by omega, Nat.pow_succ]
              simp] at this
            exact this
          have hh2 : (1 : Int64) <<< ((nI L - (1 : Int32)).toInt64 &&& 63) = lN (2 ^ (L - 1)) := by
            have e1 : nI L - (1 : Int32) = nI (L - 1) := pk_sub (b := 1) hL1
            have := wb_shl 1 (k := L - 1) (by omega)
            rw [Nat.one_mul] at this
            rw [e1]
            exact this
          have ho : (if lN (A - A % 2 ^ L) &&& lN (2 ^ L) = (0 : Int64) then (0 : Int32) else (1 : Int32)) = (if nI (Q - B) = 0 then (1 : Int32) else if ((lN A >>> ((nI L).toInt64 &&& 63)) &&& (1 : Int64)) = (1 : Int64) then (1 : Int32) else (0 : Int32)) := by
            have hdl : A / 2 ^ L ≤ A := Nat.div_le_self _ _
            rw [odd_eq hA63 (by omega), ar_shr (by omega) hA63, wb_a1 (by omega)]
            rcases Nat.mod_two_eq_zero_or_one (A / 2 ^ L) with hb | hb
            · rw [hb, if_pos (show lN (0 * 2 ^ L) = 0 by rw [Nat.zero_mul]; rfl), if_neg (show ¬ lN 0 = 1 by decide), if_neg]
              intro q
              have : Q - B = 0 := (nI_eq (b := 0) (by omega) (by decide)).mp q
              have hLP2 : L = P := by omega
              rw [hLP2, hq] at hb
              omega
            · rw [hb, if_neg, if_pos (show lN 1 = 1 from rfl)]
              · by_cases hz : nI (Q - B) = 0
                · rw [if_pos hz]
                · rw [if_neg hz]
              · rw [Nat.one_mul]
                intro q
                have := (pk_lEQ (b := 0) (by omega) (by omega)).mp q
                omega
          rw [hh1, hh2, ho]
          rfl
        · rw [if_neg h3]
          unfold m_whole_9
          refine aw_3 ?_ s1 s2
          exact away_eq (by rcases hw with h | h | h; exact Or.inl h; exact Or.inr h; exact absurd h h3)
    · rw [if_neg (show ¬ nI (Q - B) < nI P from fun q => h1 (by have := (nI_ltI (by omega) (by omega)).mp q; omega)), if_neg (show ¬ lN (Q - B) < lN P from fun q => h1 (by have := (lN_lt (by omega) (by omega)).mp q; omega))]
      exact hsv
  · -- below one
    have hlt : A < B * 2 ^ P := Nat.not_le.mp (fun q => h2 (hbq.mp q))
    rw [if_neg (show ¬ lN (B * 2 ^ P) ≤ lN A from fun q => absurd ((pk_lLE (by omega) hA63).mp q) (by omega))]
    rw [if_pos (show nI Q - nI B < nI P by rw [Int32.lt_iff_toInt_lt, eI, nI_toInt (by omega)]; omega)]
    unfold m_whole_5
    rw [if_neg (show ¬ (0 : Int32) ≤ nI Q - nI B by rw [Int32.le_iff_toInt_le, eI, z32]; omega)]
    unfold n_wholeSize_11 n_wholeSize_12
    have s0 : n_signed k (0 : Int64) v = m_signed k (0 : Int64) v := sg 0 (by omega)
    have s1 := sg (B * 2 ^ P) (by omega)
    have hu : (1 : Int64) <<< ((nI P).toInt64 &&& 63) = lN (2 ^ P) := by
      have := wb_shl 1 (k := P) (by omega)
      rw [Nat.one_mul] at this
      exact this
    have hhf : lN (B * 2 ^ P) - lN (2 ^ P) = lN ((B - 1) * 2 ^ P) := by
      rw [lN_sub (Nat.le_mul_of_pos_left _ (by omega)), Nat.sub_mul, Nat.one_mul]
    have hb1 : (B - 1) * 2 ^ P + 2 ^ P = B * 2 ^ P := by
      rw [Nat.sub_mul, Nat.one_mul]
      exact Nat.sub_add_cancel (Nat.le_mul_of_pos_left _ (by omega))
    by_cases h3 : way = 3
    · rw [if_pos h3]
      unfold m_whole_15 m_whole_16
      rw [hone2]
      refine aw_3 ?_ s0 s1
      rw [hu, hhf, h3]
      show (if lN A ≤ lN ((B - 1) * 2 ^ P) then (0 : Int32) else 1) = _
      by_cases hn : lN A ≤ lN ((B - 1) * 2 ^ P)
      · rw [if_pos hn]
        by_cases he : nI Q - nI B = (-1 : Int32)
        · rw [if_pos he]
        · rw [if_neg he]
      · have hn2 : (B - 1) * 2 ^ P < A := Nat.not_le.mp (fun q => hn ((pk_lLE hA63 (by omega)).mpr q))
        have hq1 : B - 1 ≤ Q := by
          rw [← hq]
          exact (Nat.le_div_iff_mul_le hp).mpr (by omega)
        have he : nI Q - nI B = (-1 : Int32) := by
          apply Int32.toInt_inj.mp
          rw [eI, show (-1 : Int32).toInt = -1 from by decide]
          omega
        rw [if_neg hn, if_pos he]
    · rw [if_neg h3]
      unfold m_whole_14
      rw [hone2]
      refine aw_3 ?_ s0 s1
      exact away_eq (by rcases hw with h | h | h; exact Or.inl h; exact Or.inr h; exact absurd h h3)
