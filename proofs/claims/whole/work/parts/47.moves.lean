theorem op_move {kd : Nat → Int32} {lo hi vl : Nat → Int64} {nd : Int32} {so fr tg gn : Nat → Int32} {nr mo ma : Int32} {sv : Nat → Int64} {sd : Nat → Int32} {se sh : Int32} {gm : Nat → Int32} {kp ah : Nat → Int64} {kx : Nat → Int32} {st mp : Int32} {op nx : Nat → Int32} {op9 nx9 : Nat → Int32} {f g d : Int32} {v : Int64} (hS : RelS kd lo hi vl nd so fr tg nr) (hK : RelK kd nd sv sd se sh kp kx st) (hf : f = 0) (hv : IR (kd d.toNatClampNeg) v) : Post (x_movesWhenGiven kd lo hi vl nd so fr tg gn nr mo ma f sv sd se sh d v) (m_call kd vl lo hi nd so fr tg gm nr kp ah kx st mp ma g op nx d v op9 nx9) := by
  obtain ⟨s1, s2, s3, s4, s5, s6, s7, s8⟩ := id hS
  rw [x_mwg_eq, m_call_eq]
  obtain ⟨hN, hN24⟩ := nr_nat s2
  have hsim : SimR kd nr.toNatClampNeg ma vl (sv, sd, se, sh) (keepK nd vl (sv, sd, se, sh)) 1 (x_gets kd lo hi nd so fr tg nr.toNatClampNeg 24 (vl, clr gn nr.toNatClampNeg, 0, ma, sv, sd, se, sh) d v) (t_gets kd lo hi so fr tg nr.toNatClampNeg 25 (vl, clr gm 24, 0) d v) := by
    rw [← t_fuel hN24 24 (vl, clr gm 24, 0) d v (by omega)]
    refine sim_gets hN24 s4 s5 s6 (fun i hi => ⟨(s8 i hi).2.2.1, (s8 i hi).2.2.2⟩) 24 _ _ d v ⟨rfl, fun j hj => ?_, rfl, s7, 0, nI_0.symm, Nat.zero_le _, ?_, fun _ => ⟨rfl, rfl⟩, fun q => absurd rfl q⟩ hv
    · show clr gn nr.toNatClampNeg j = clr gm 24 j
      unfold clr
      rw [if_pos hj, if_pos (by omega)]
    · show ma = ma + nI 0
      rw [nI_0, Int32.add_zero]
  generalize x_gets kd lo hi nd so fr tg nr.toNatClampNeg 24 (vl, clr gn nr.toNatClampNeg, 0, ma, sv, sd, se, sh) d v = X at hsim ⊢
  generalize t_gets kd lo hi so fr tg nr.toNatClampNeg 25 (vl, clr gm 24, 0) d v = G at hsim ⊢
  obtain ⟨h1, -, h3, h4, c, c1, c2, c3, c4, c5⟩ := hsim
  have hcl := cnt_le G.2.1 nr.toNatClampNeg
  have hma : X.2.2.2.1 = ma + G.2.2 := by rw [c3, ← h3, c1]
  by_cases hc : c = 0
  · have hz : G.2.2 ≤ 0 := by rw [← h3, c1, hc]; decide
    rw [if_pos hz, if_pos hz, if_pos hz]
    refine ⟨h3, rfl, h1, rfl, rfl, rfl, rfl, rfl, rfl, rfl, hma, hf, ⟨s1, s2, s3, s4, s5, s6, h4, s8⟩, ?_⟩
    rw [(c4 hc).2]
    exact hK
  · have hz : ¬ G.2.2 ≤ 0 := by rw [← h3, c1]; exact nI_nle (by omega) (by omega)
    rw [if_neg hz, if_neg hz, if_neg hz]
    refine ⟨h3, rfl, h1, rfl, rfl, rfl, rfl, rfl, rfl, rfl, hma, hf, ⟨s1, s2, s3, s4, s5, s6, h4, s8⟩, ?_⟩
    rw [c5 hc]
    exact rel_keep s1 s7 hK
theorem op_set {kd : Nat → Int32} {lo hi vl : Nat → Int64} {nd : Int32} {so fr tg gn : Nat → Int32} {nr mo ma fa : Int32} {sv : Nat → Int64} {sd : Nat → Int32} {se sh : Int32} {gm : Nat → Int32} {kp ah : Nat → Int64} {kx : Nat → Int32} {st mp : Int32} {op nx : Nat → Int32} {op9 nx9 : Nat → Int32} {p0 : Int32} {p1 : Int64} (hS : RelS kd lo hi vl nd so fr tg nr) (hK : RelK kd nd sv sd se sh kp kx st) : Post (x_set kd lo hi vl nd so fr tg gn nr mo ma fa sv sd se sh p0 p1) (m_set kd vl lo hi nd so fr tg gm nr kp ah kx st mp ma fa op nx p0 p1 op9 nx9) := by
  obtain ⟨s1, s2, s3, s4, s5, s6, s7, s8⟩ := id hS
  unfold x_set
  by_cases h1 : x_isDial nd p0 = 0
  · have hF : x_faultOfSet kd nd p0 p1 = 1 := by
      unfold x_faultOfSet
      rw [if_pos h1]
    rw [hF, if_neg (by decide)]
    unfold m_set
    rw [if_pos (show m_isDial nd p0 = 0 from h1)]
    exact ⟨rfl, rfl, rfl, rfl, rfl, rfl, rfl, rfl, rfl, rfl, rfl, rfl, hS, hK⟩
  · by_cases h2 : n_isOfKind (kd p0.toNatClampNeg) p1 = 0
    · have hF : x_faultOfSet kd nd p0 p1 = 3 := by
        unfold x_faultOfSet
        rw [if_neg h1, if_pos h2]
      rw [hF, if_neg (by decide)]
      unfold m_set
      rw [if_neg (show ¬ m_isDial nd p0 = 0 from h1), if_pos (by rw [← number_eq (s4 _)]; exact h2)]
      exact ⟨rfl, rfl, rfl, rfl, rfl, rfl, rfl, rfl, rfl, rfl, rfl, rfl, hS, hK⟩
    · have hF : x_faultOfSet kd nd p0 p1 = 0 := by
        unfold x_faultOfSet
        rw [if_neg h1, if_neg h2]
      have hM : m_set kd vl lo hi nd so fr tg gm nr kp ah kx st mp ma fa op nx p0 p1 op9 nx9 = m_call kd vl lo hi nd so fr tg gm nr kp ah kx st mp ma fa op nx p0 p1 op9 nx9 := by
        rw [m_call_eq]
        unfold m_set
        rw [if_neg (show ¬ m_isDial nd p0 = 0 from h1), if_neg (by rw [← number_eq (s4 _)]; exact h2)]
      rw [if_pos hF, hM]
      show Post (x_movesWhenGiven kd lo hi vl nd so fr tg gn nr mo ma (x_faultOfSet kd nd p0 p1) sv sd se sh p0 p1) _
      exact op_move hS hK hF (IR_number (s4 _) h2)
theorem op_turn_ok {kd : Nat → Int32} {lo hi vl : Nat → Int64} {nd : Int32} {so fr tg gn : Nat → Int32} {nr mo ma fa : Int32} {sv : Nat → Int64} {sd : Nat → Int32} {se sh : Int32} {gm : Nat → Int32} {kp ah : Nat → Int64} {kx : Nat → Int32} {st mp : Int32} {op nx : Nat → Int32} {op9 nx9 : Nat → Int32} {p0 p1 : Int32} (hS : RelS kd lo hi vl nd so fr tg nr) (hK : RelK kd nd sv sd se sh kp kx st) (hF : x_faultOfTurn kd nd p0 p1 = 0) (hf : p1 = 0 ∨ ((kd p0.toNatClampNeg = 2 ∨ kd p0.toNatClampNeg = 3) ∧ (p1 = 1 ∨ p1 = 2 ∨ p1 = 3 ∨ p1 = 4))) (hM : m_turn kd vl lo hi nd so fr tg gm nr kp ah kx st mp ma fa op nx p0 p1 op9 nx9 = m_call kd vl lo hi nd so fr tg gm nr kp ah kx st mp ma fa op nx p0 (m_turned (kd p0.toNatClampNeg) (vl p0.toNatClampNeg) p1) op9 nx9) : Post (x_turn kd lo hi vl nd so fr tg gn nr mo ma fa sv sd se sh p0 p1) (m_turn kd vl lo hi nd so fr tg gm nr kp ah kx st mp ma fa op nx p0 p1 op9 nx9) := by
  obtain ⟨s1, s2, s3, s4, s5, s6, s7, s8⟩ := id hS
  unfold x_turn
  rw [if_pos hF, hM, ← turned_eq (s4 _) (s7 _) hf]
  show Post (x_movesWhenGiven kd lo hi vl nd so fr tg gn nr mo ma (x_faultOfTurn kd nd p0 p1) sv sd se sh p0 (n_turned (kd p0.toNatClampNeg) (vl p0.toNatClampNeg) p1)) _
  exact op_move hS hK hF (IR_turned (s4 _) (s7 _) hf)
theorem way_14 {x : Int32} (h0 : ¬ x ≤ 0) (h4 : x ≤ 4) : x = 1 ∨ x = 2 ∨ x = 3 ∨ x = 4 := by
  obtain ⟨j, hj, rfl⟩ := nI_of2 (M := 4) (n := 4) (by decide) (fun q => h0 (Int32.le_of_lt q)) h4
  rcases (show j = 0 ∨ j = 1 ∨ j = 2 ∨ j = 3 ∨ j = 4 by omega) with rfl | rfl | rfl | rfl | rfl
  · exact absurd (by decide) h0
  · exact Or.inl rfl
  · exact Or.inr (Or.inl rfl)
  · exact Or.inr (Or.inr (Or.inl rfl))
  · exact Or.inr (Or.inr (Or.inr rfl))
theorem real_of {k : Int32} (hk : okK k) (h : ¬ m_isReal k = 0) : k = 2 ∨ k = 3 := by
  rcases hk with rfl | rfl | rfl | rfl
  · exact absurd (by decide) h
  · exact absurd (by decide) h
  · exact Or.inl rfl
  · exact Or.inr rfl
theorem op_turn {kd : Nat → Int32} {lo hi vl : Nat → Int64} {nd : Int32} {so fr tg gn : Nat → Int32} {nr mo ma fa : Int32} {sv : Nat → Int64} {sd : Nat → Int32} {se sh : Int32} {gm : Nat → Int32} {kp ah : Nat → Int64} {kx : Nat → Int32} {st mp : Int32} {op nx : Nat → Int32} {op9 nx9 : Nat → Int32} {p0 p1 : Int32} (hS : RelS kd lo hi vl nd so fr tg nr) (hK : RelK kd nd sv sd se sh kp kx st) : Post (x_turn kd lo hi vl nd so fr tg gn nr mo ma fa sv sd se sh p0 p1) (m_turn kd vl lo hi nd so fr tg gm nr kp ah kx st mp ma fa op nx p0 p1 op9 nx9) := by
  obtain ⟨s1, s2, s3, s4, s5, s6, s7, s8⟩ := id hS
  by_cases h1 : x_isDial nd p0 = 0
  · have hF : x_faultOfTurn kd nd p0 p1 = 1 := by
      unfold x_faultOfTurn
      rw [if_pos h1]
    unfold x_turn
    rw [hF, if_neg (by decide)]
    unfold m_turn
    rw [if_pos (show m_isDial nd p0 = 0 from h1)]
    exact ⟨rfl, rfl, rfl, rfl, rfl, rfl, rfl, rfl, rfl, rfl, rfl, rfl, hS, hK⟩
  · have h1' : ¬ m_isDial nd p0 = 0 := h1
    by_cases h2 : p1 < 0
    · have hF : x_faultOfTurn kd nd p0 p1 = 2 := by
        unfold x_faultOfTurn
        rw [if_neg h1]
        by_cases hq : n_isReal (kd p0.toNatClampNeg) = 0
        · rw [if_pos hq, if_pos h2]
        · rw [if_neg hq, if_pos h2]
      unfold x_turn
      rw [hF, if_neg (by decide)]
      unfold m_turn
      rw [if_neg h1', if_pos h2]
      exact ⟨rfl, rfl, rfl, rfl, rfl, rfl, rfl, rfl, rfl, rfl, rfl, rfl, hS, hK⟩
    · by_cases h3 : p1 ≤ 0
      · have h34 : ¬ (4 : Int32) < p1 := Int32.not_lt.mpr (Int32.le_trans h3 (by decide))
        have hF : x_faultOfTurn kd nd p0 p1 = 0 := by
          unfold x_faultOfTurn
          rw [if_neg h1]
          by_cases hq : n_isReal (kd p0.toNatClampNeg) = 0
          · rw [if_pos hq, if_neg h2, if_pos h3]
          · rw [if_neg hq, if_neg h2, if_pos (Int32.not_lt.mp h34)]
        refine op_turn_ok hS hK hF (Or.inl (Int32.le_antisymm h3 (Int32.not_lt.mp h2))) ?_
        rw [m_call_eq]
        unfold m_turn
        rw [if_neg h1', if_neg h2, if_neg h34, if_pos h3]
      · by_cases h4 : (4 : Int32) < p1
        · have hF : x_faultOfTurn kd nd p0 p1 = 2 := by
            unfold x_faultOfTurn
            rw [if_neg h1]
            by_cases hq : n_isReal (kd p0.toNatClampNeg) = 0
            · rw [if_pos hq, if_neg h2, if_neg h3]
            · rw [if_neg hq, if_neg h2, if_neg (Int32.not_le.mpr h4)]
          unfold x_turn
          rw [hF, if_neg (by decide)]
          unfold m_turn
          rw [if_neg h1', if_neg h2, if_pos h4]
          exact ⟨rfl, rfl, rfl, rfl, rfl, rfl, rfl, rfl, rfl, rfl, rfl, rfl, hS, hK⟩
        · have h4' := Int32.not_lt.mp h4
          by_cases h5 : m_isReal (kd p0.toNatClampNeg) = 0
          · have hF : x_faultOfTurn kd nd p0 p1 = 2 := by
              unfold x_faultOfTurn
              rw [if_neg h1, if_pos (by rw [isReal_eq (s4 _)]; exact h5), if_neg h2, if_neg h3]
            unfold x_turn
            rw [hF, if_neg (by decide)]
            unfold m_turn
            rw [if_neg h1', if_neg h2, if_neg h4, if_neg h3, if_pos h5]
            exact ⟨rfl, rfl, rfl, rfl, rfl, rfl, rfl, rfl, rfl, rfl, rfl, rfl, hS, hK⟩
          · have hF : x_faultOfTurn kd nd p0 p1 = 0 := by
              unfold x_faultOfTurn
              rw [if_neg h1, if_neg (by rw [isReal_eq (s4 _)]; exact h5), if_neg h2, if_pos h4']
            refine op_turn_ok hS hK hF (Or.inr ⟨real_of (s4 _) h5, way_14 h3 h4'⟩) ?_
            rw [m_call_eq]
            unfold m_turn
            rw [if_neg h1', if_neg h2, if_neg h4, if_neg h3, if_neg h5]
theorem op_take {kd : Nat → Int32} {lo hi vl : Nat → Int64} {nd : Int32} {so fr tg gn : Nat → Int32} {nr mo ma fa : Int32} {sv : Nat → Int64} {sd : Nat → Int32} {se sh : Int32} {gm : Nat → Int32} {kp ah : Nat → Int64} {kx : Nat → Int32} {st mp : Int32} {op nx : Nat → Int32} {op9 nx9 : Nat → Int32} {p0 p1 p2 : Int32} (hS : RelS kd lo hi vl nd so fr tg nr) (hK : RelK kd nd sv sd se sh kp kx st) : Post (x_take kd lo hi vl nd so fr tg gn nr mo ma fa sv sd se sh p0 p1 p2) (m_take kd vl lo hi nd so fr tg gm nr kp ah kx st mp ma fa op nx p0 p1 p2 op9 nx9) := by
  obtain ⟨s1, s2, s3, s4, s5, s6, s7, s8⟩ := id hS
  unfold x_take
  by_cases h1 : x_isDial nd p0 = 0
  · have hF : x_faultOfTake kd nd p0 p1 p2 = 1 := by
      unfold x_faultOfTake
      rw [if_pos h1]
    rw [hF, if_neg (by decide)]
    unfold m_take
    rw [if_pos (show m_isDial nd p0 = 0 from h1)]
    exact ⟨rfl, rfl, rfl, rfl, rfl, rfl, rfl, rfl, rfl, rfl, rfl, rfl, hS, hK⟩
  · have h1' : ¬ m_isDial nd p0 = 0 := h1
    by_cases h2 : x_isDial nd p1 = 0
    · have hF : x_faultOfTake kd nd p0 p1 p2 = 1 := by
        unfold x_faultOfTake
        rw [if_neg h1, if_pos h2]
      rw [hF, if_neg (by decide)]
      unfold m_take
      rw [if_neg h1', if_pos (show m_isDial nd p1 = 0 from h2)]
      exact ⟨rfl, rfl, rfl, rfl, rfl, rfl, rfl, rfl, rfl, rfl, rfl, rfl, hS, hK⟩
    · have h2' : ¬ m_isDial nd p1 = 0 := h2
      by_cases h3 : x_isSort p2 = 0
      · have hF : x_faultOfTake kd nd p0 p1 p2 = 2 := by
          unfold x_faultOfTake
          rw [if_neg h1, if_neg h2, if_pos h3]
        rw [hF, if_neg (by decide)]
        unfold m_take
        by_cases h4 : p2 < 0
        · rw [if_neg h1', if_neg h2', if_pos h4]
          exact ⟨rfl, rfl, rfl, rfl, rfl, rfl, rfl, rfl, rfl, rfl, rfl, rfl, hS, hK⟩
        · have h5 : ¬ p2 ≤ 3 := by
            rcases sort_iff.mp h3 with q | q
            · exact absurd q h4
            · exact q
          rw [if_neg h1', if_neg h2', if_neg h4, if_neg h5]
          exact ⟨rfl, rfl, rfl, rfl, rfl, rfl, rfl, rfl, rfl, rfl, rfl, rfl, hS, hK⟩
      · have h4 : ¬ p2 < 0 := fun q => h3 (sort_iff.mpr (Or.inl q))
        have h5 : p2 ≤ 3 := Decidable.byContradiction (fun q => h3 (sort_iff.mpr (Or.inr q)))
        have hF : x_faultOfTake kd nd p0 p1 p2 = m_reason kd p2 p1 p0 := by
          unfold x_faultOfTake
          rw [if_neg h1, if_neg h2, if_neg h3, pair_eq s4]
        by_cases h6 : m_reason kd p2 p1 p0 = 0
        · have hM : m_take kd vl lo hi nd so fr tg gm nr kp ah kx st mp ma fa op nx p0 p1 p2 op9 nx9 = m_call kd vl lo hi nd so fr tg gm nr kp ah kx st mp ma fa op nx p0 (m_gives kd vl p2 p1 p0) op9 nx9 := by
            rw [m_call_eq]
            unfold m_take
            rw [if_neg h1', if_neg h2', if_neg h4, if_pos h5, if_pos (reason_0.mpr h6)]
          rw [if_pos (by rw [hF]; exact h6), hM, ← gift_eq s4 s7]
          show Post (x_movesWhenGiven kd lo hi vl nd so fr tg gn nr mo ma (x_faultOfTake kd nd p0 p1 p2) sv sd se sh p0 (x_gift kd vl p2 p1 p0)) _
          obtain ⟨g1, g2⟩ := reason_ok s4 h6
          exact op_move hS hK (by rw [hF]; exact h6) (IR_gift s4 s7 g1 g2)
        · rw [if_neg (by rw [hF]; exact h6)]
          unfold m_take
          rw [if_neg h1', if_neg h2', if_neg h4, if_pos h5, if_neg (fun q => h6 (reason_0.mp q))]
          exact ⟨rfl, rfl, rfl, rfl, rfl, rfl, rfl, rfl, rfl, rfl, rfl, hF, hS, hK⟩
theorem op_look (kd : Nat → Int32) (lo hi vl : Nat → Int64) (nd p0 p1 : Int32) : x_look kd lo hi vl nd p0 p1 = m_look kd vl lo hi nd p0 p1 := rfl
theorem op_count (nd nr ma fa st p0 : Int32) : x_count nd nr ma fa st p0 = m_count nd nr st ma fa p0 := rfl
