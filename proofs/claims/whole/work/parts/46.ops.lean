abbrev Rel (x : XS) (m : MS) : Prop := match x, m with
  | (kd, lo, hi, vl, nd, so, fr, tg, _, nr, _, ma, fa, sv, sd, se, sh), (kd2, vl2, lo2, hi2, nd2, so2, fr2, tg2, _, nr2, kp, _, kx, st, _, ma2, fa2, _, _) => kd = kd2 ∧ vl = vl2 ∧ lo = lo2 ∧ hi = hi2 ∧ nd = nd2 ∧ so = so2 ∧ fr = fr2 ∧ tg = tg2 ∧ nr = nr2 ∧ ma = ma2 ∧ fa = fa2 ∧ RelS kd lo hi vl nd so fr tg nr ∧ RelK kd nd sv sd se sh kp kx st
def Post (X : Int32 × XS) (M : Int32 × MS) : Prop := X.1 = M.1 ∧ Rel X.2 M.2
theorem dial_eq (nd d : Int32) : m_isDial nd d = x_isDial nd d := rfl
theorem okK_of {k : Int32} (h0 : ¬ k < 0) (h3 : k ≤ 3) : okK k := by
  obtain ⟨j, hj, rfl⟩ := nI_of2 (M := 3) (n := 3) (by decide) h0 h3
  rcases (show j = 0 ∨ j = 1 ∨ j = 2 ∨ j = 3 by omega) with rfl | rfl | rfl | rfl
  · exact Or.inl rfl
  · exact Or.inr (Or.inl rfl)
  · exact Or.inr (Or.inr (Or.inl rfl))
  · exact Or.inr (Or.inr (Or.inr rfl))
theorem cmp_above {k : Int32} {a b : Int64} (hk : okK k) : n_compared k a b ≤ 0 ↔ m_isAbove k a b = 0 := by
  rw [above_0, ← rank_eq hk, ← rank_eq hk]
  exact ⟨fun h => Int64.not_lt.mp (fun q => absurd (cmp_gt.mpr q) (Int32.not_lt.mpr h)), fun h => Int32.not_lt.mp (fun q => absurd (cmp_gt.mp q) (Int64.not_lt.mpr h))⟩
theorem nd_lt {nd : Int32} (h : 0 ≤ nd ∧ nd ≤ 16) : nd < 16 ↔ ¬ nd = 16 := by
  constructor
  · intro h1 h2
    rw [h2] at h1
    exact absurd h1 (by decide)
  · intro h1
    rcases Int32.lt_or_eq_of_le h.2 with q | q
    · exact q
    · exact absurd q h1
theorem nr_lt {nr : Int32} (h : 0 ≤ nr ∧ nr ≤ 24) : nr < 24 ↔ ¬ nr = 24 := by
  constructor
  · intro h1 h2
    rw [h2] at h1
    exact absurd h1 (by decide)
  · intro h1
    rcases Int32.lt_or_eq_of_le h.2 with q | q
    · exact q
    · exact absurd q h1
theorem add_sub1 (x : Int32) : x + 1 - 1 = x := by
  rw [Int32.add_sub_cancel]
theorem pair_eq {kd : Nat → Int32} (hk : ∀ j, okK (kd j)) (s a b : Int32) : x_faultOfPair kd s a b = m_reason kd s a b := by
  unfold x_faultOfPair m_reason
  by_cases h1 : a = b
  · rw [if_pos h1, if_pos (by rw [h1]), if_pos h1]
  · rw [if_neg h1]
    by_cases h2 : kd a.toNatClampNeg = kd b.toNatClampNeg
    · rw [if_pos h2, if_pos h2, if_neg h1, isReal_eq (hk _)]
    · rw [if_neg h2, if_neg h2]
theorem reason_0 {kd : Nat → Int32} {s a b : Int32} : m_reason kd s a b ≤ 0 ↔ m_reason kd s a b = 0 := by
  unfold m_reason
  split
  · split
    · decide
    · split
      · split
        · decide
        · decide
      · decide
  · decide
theorem reason_ok {kd : Nat → Int32} (hk : ∀ j, okK (kd j)) {s a b : Int32} (h : m_reason kd s a b = 0) : kd a.toNatClampNeg = kd b.toNatClampNeg ∧ (s = 2 → kd a.toNatClampNeg = 2 ∨ kd a.toNatClampNeg = 3) := by
  unfold m_reason at h
  by_cases h2 : kd a.toNatClampNeg = kd b.toNatClampNeg
  · refine ⟨h2, fun hs => ?_⟩
    rw [if_pos h2] at h
    by_cases h1 : a = b
    · rw [if_pos h1] at h
      exact absurd h (by decide)
    · rw [if_neg h1, if_pos hs] at h
      by_cases h3 : m_isReal (kd a.toNatClampNeg) = 0
      · rw [if_pos h3] at h
        exact absurd h (by decide)
      · rcases hk a.toNatClampNeg with q | q | q | q
        · rw [q] at h3
          exact absurd (by decide) h3
        · rw [q] at h3
          exact absurd (by decide) h3
        · exact Or.inl q
        · exact Or.inr q
  · rw [if_neg h2] at h
    exact absurd h (by decide)
theorem sort_iff {s : Int32} : x_isSort s = 0 ↔ (s < 0 ∨ ¬ s ≤ 3) := by
  unfold x_isSort
  by_cases h1 : s < 0
  · rw [if_pos h1]
    exact ⟨fun _ => Or.inl h1, fun _ => rfl⟩
  · rw [if_neg h1]
    by_cases h2 : (3 : Int32) < s
    · rw [if_pos h2]
      exact ⟨fun _ => Or.inr (Int32.not_le.mpr h2), fun _ => rfl⟩
    · rw [if_neg h2]
      exact ⟨fun q => absurd q (by decide), fun q => by rcases q with q | q; exact absurd q h1; exact absurd (Int32.not_lt.mp h2) q⟩
theorem dial_nat {nd d : Int32} (hn : 0 ≤ nd ∧ nd ≤ 16) (h : ¬ x_isDial nd d = 0) : d.toNatClampNeg < nd.toNatClampNeg := by
  obtain ⟨h1, h2⟩ := isDial_iff.mp h
  obtain ⟨n, hn16, rfl⟩ := n16 hn
  obtain ⟨j, hj, rfl⟩ := nI_of (Int32.not_lt.mpr h1)
  have := (nI_ltI hj (by omega)).mp h2
  rw [nI_clamp hj, nI_clamp (by omega)]
  exact this
theorem m_dial_form {kd : Nat → Int32} {lo hi vl : Nat → Int64} {nd : Int32} {so fr tg : Nat → Int32} {nr ma fa : Int32} {gm : Nat → Int32} {kp ah : Nat → Int64} {kx : Nat → Int32} {st mp : Int32} {op nx : Nat → Int32} {p0 : Int32} {p1 p2 : Int64} (hn : 0 ≤ nd ∧ nd ≤ 16) : m_dial kd vl lo hi nd so fr tg gm nr kp ah kx st mp ma fa op nx p0 p1 p2 = if x_faultOfDial nd p0 p1 p2 = 0 then (nd, upd kd nd.toNatClampNeg p0, vp_updL vl nd.toNatClampNeg (n_fitted p0 p1 p2 0), vp_updL lo nd.toNatClampNeg p1, vp_updL hi nd.toNatClampNeg p2, nd + 1, so, fr, tg, gm, nr, kp, ah, kx, st, mp, ma, 0, op, nx) else (-1, kd, vl, lo, hi, nd, so, fr, tg, gm, nr, kp, ah, kx, st, mp, ma, x_faultOfDial nd p0 p1 p2, op, nx) := by
  by_cases h1 : p0 < 0
  · have hF : x_faultOfDial nd p0 p1 p2 = 2 := by
      unfold x_faultOfDial
      rw [if_pos h1]
    rw [hF, if_neg (by decide)]
    unfold m_dial
    rw [if_pos h1]
  · by_cases h2 : p0 ≤ 3
    · have hk := okK_of h1 h2
      by_cases h3 : nd = 16
      · have hF : x_faultOfDial nd p0 p1 p2 = 5 := by
          unfold x_faultOfDial
          rw [if_neg h1, if_pos h2, if_neg (fun q => (nd_lt hn).mp q h3)]
        rw [hF, if_neg (by decide)]
        unfold m_dial
        rw [if_neg h1, if_pos h2, if_pos h3]
      · have h3' := (nd_lt hn).mpr h3
        by_cases h4 : m_isNumber p0 p1 = 0
        · have hF : x_faultOfDial nd p0 p1 p2 = 3 := by
            unfold x_faultOfDial
            rw [if_neg h1, if_pos h2, if_pos h3', if_pos (by rw [number_eq hk]; exact h4)]
          rw [hF, if_neg (by decide)]
          unfold m_dial
          rw [if_neg h1, if_pos h2, if_neg h3, if_pos h4]
        · by_cases h5 : m_isNumber p0 p2 = 0
          · have hF : x_faultOfDial nd p0 p1 p2 = 3 := by
              unfold x_faultOfDial
              rw [if_neg h1, if_pos h2, if_pos h3', if_neg (by rw [number_eq hk]; exact h4), if_pos (by rw [number_eq hk]; exact h5)]
            rw [hF, if_neg (by decide)]
            unfold m_dial
            rw [if_neg h1, if_pos h2, if_neg h3, if_neg h4, if_pos h5]
          · by_cases h6 : m_isAbove p0 p1 p2 = 0
            · have hF : x_faultOfDial nd p0 p1 p2 = 0 := by
                unfold x_faultOfDial
                rw [if_neg h1, if_pos h2, if_pos h3', if_neg (by rw [number_eq hk]; exact h4), if_neg (by rw [number_eq hk]; exact h5), if_pos ((cmp_above hk).mpr h6)]
              rw [hF, if_pos rfl]
              unfold m_dial
              rw [if_neg h1, if_pos h2, if_neg h3, if_neg h4, if_neg h5, if_pos h6, add_sub1]
              have e : m_fitted (upd kd nd.toNatClampNeg p0) (vp_updL lo nd.toNatClampNeg p1) (vp_updL hi nd.toNatClampNeg p2) nd 0 = n_fitted p0 p1 p2 0 := by
                unfold m_fitted n_fitted
                rw [pk_us, pk_uLs, pk_uLs, less_eq hk, greater_eq hk]
              rw [e]
            · have hF : x_faultOfDial nd p0 p1 p2 = 4 := by
                unfold x_faultOfDial
                rw [if_neg h1, if_pos h2, if_pos h3', if_neg (by rw [number_eq hk]; exact h4), if_neg (by rw [number_eq hk]; exact h5), if_neg (fun q => h6 ((cmp_above hk).mp q))]
              rw [hF, if_neg (by decide)]
              unfold m_dial
              rw [if_neg h1, if_pos h2, if_neg h3, if_neg h4, if_neg h5, if_neg h6]
    · have hF : x_faultOfDial nd p0 p1 p2 = 2 := by
        unfold x_faultOfDial
        rw [if_neg h1, if_neg h2]
      rw [hF, if_neg (by decide)]
      unfold m_dial
      rw [if_neg h1, if_neg h2]
theorem dial_facts {nd k : Int32} {a b : Int64} (h : x_faultOfDial nd k a b = 0) : okK k ∧ nd < 16 ∧ ¬ n_isOfKind k a = 0 ∧ ¬ n_isOfKind k b = 0 := by
  unfold x_faultOfDial at h
  by_cases h1 : k < 0
  · rw [if_pos h1] at h
    exact absurd h (by decide)
  · rw [if_neg h1] at h
    by_cases h2 : k ≤ 3
    · rw [if_pos h2] at h
      by_cases h3 : nd < 16
      · rw [if_pos h3] at h
        by_cases h4 : n_isOfKind k a = 0
        · rw [if_pos h4] at h
          exact absurd h (by decide)
        · rw [if_neg h4] at h
          by_cases h5 : n_isOfKind k b = 0
          · rw [if_pos h5] at h
            exact absurd h (by decide)
          · exact ⟨okK_of h1 h2, h3, h4, h5⟩
      · rw [if_neg h3] at h
        exact absurd h (by decide)
    · rw [if_neg h2] at h
      exact absurd h (by decide)
theorem updL_in {kd : Nat → Int32} {f : Nat → Int64} {k : Nat} {q : Int32} {x : Int64} (hf : ∀ j, IR (kd j) (f j)) (hx : IR q x) : ∀ j, IR (upd kd k q j) (vp_updL f k x j) := by
  intro j
  by_cases h : j = k
  · rw [h, pk_us, pk_uLs]; exact hx
  · rw [pk_un h, pk_uLn h]; exact hf j
theorem op_dial {kd : Nat → Int32} {lo hi vl : Nat → Int64} {nd : Int32} {so fr tg gn : Nat → Int32} {nr mo ma fa : Int32} {sv : Nat → Int64} {sd : Nat → Int32} {se sh : Int32} {gm : Nat → Int32} {kp ah : Nat → Int64} {kx : Nat → Int32} {st mp : Int32} {op nx : Nat → Int32} {p0 : Int32} {p1 p2 : Int64} (hS : RelS kd lo hi vl nd so fr tg nr) (hK : RelK kd nd sv sd se sh kp kx st) : Post (x_dial kd lo hi vl nd so fr tg gn nr mo ma fa sv sd se sh p0 p1 p2) (m_dial kd vl lo hi nd so fr tg gm nr kp ah kx st mp ma fa op nx p0 p1 p2) := by
  obtain ⟨s1, s2, s3, s4, s5, s6, s7, s8⟩ := id hS
  rw [m_dial_form s1]
  unfold x_dial
  by_cases hF : x_faultOfDial nd p0 p1 p2 = 0
  · rw [if_pos hF, if_pos hF]
    obtain ⟨f1, f2, f3, f4⟩ := dial_facts hF
    obtain ⟨n, hn, rfl⟩ := n16 s1
    have hn2 : n < 16 := (nI_ltI (b := 16) (by omega) (by decide)).mp f2
    have hc : (nI n).toNatClampNeg = n := nI_clamp (by omega)
    have hc1 : (nI (n + 1)).toNatClampNeg = n + 1 := nI_clamp (by omega)
    have i1 := IR_number f1 f3
    have i2 := IR_number f1 f4
    rw [nI_1, hc]
    refine ⟨rfl, rfl, rfl, rfl, rfl, rfl, rfl, rfl, rfl, rfl, rfl, hF, ⟨⟨nI_pos' (by omega), nI_le (b := 16) (by omega) (by decide)⟩, s2, s3, upd_in s4 f1, updL_in s5 i1, updL_in s6 i2, updL_in s7 (IR_fitted i1 i2 (IR_0 _)), ?_⟩, ?_⟩
    · intro i hi
      obtain ⟨r1, r2, r3, r4⟩ := s8 i hi
      rw [hc] at r1 r2
      rw [hc1, pk_un (by omega), pk_un (by omega)]
      exact ⟨by omega, by omega, r3, r4⟩
    · obtain ⟨k1, k2, k3, k4, k5⟩ := hK
      refine ⟨k1, k2, k3, k4, fun i hi => ?_⟩
      obtain ⟨r1, r2, r3⟩ := k5 i hi
      rw [hc] at r2
      rw [hc1]
      refine ⟨r1, by omega, fun d hd => ?_⟩
      rw [pk_un (by omega)]
      exact r3 d hd
  · rw [if_neg hF, if_neg hF]
    exact ⟨rfl, rfl, rfl, rfl, rfl, rfl, rfl, rfl, rfl, rfl, rfl, rfl, hS, hK⟩
theorem m_rod_form {kd : Nat → Int32} {lo hi vl : Nat → Int64} {nd : Int32} {so fr tg : Nat → Int32} {nr ma fa : Int32} {gm : Nat → Int32} {kp ah : Nat → Int64} {kx : Nat → Int32} {st mp : Int32} {op nx : Nat → Int32} {p0 p1 p2 : Int32} (hk : ∀ j, okK (kd j)) (hn : 0 ≤ nr ∧ nr ≤ 24) : m_rod kd vl lo hi nd so fr tg gm nr kp ah kx st mp ma fa op nx p0 p1 p2 = if x_faultOfRod kd nd nr p0 p1 p2 = 0 then (nr, kd, vl, lo, hi, nd, upd so nr.toNatClampNeg p0, upd fr nr.toNatClampNeg p1, upd tg nr.toNatClampNeg p2, gm, nr + 1, kp, ah, kx, st, mp, ma, 0, op, nx) else (-1, kd, vl, lo, hi, nd, so, fr, tg, gm, nr, kp, ah, kx, st, mp, ma, x_faultOfRod kd nd nr p0 p1 p2, op, nx) := by
  have hs : ∀ q : Prop, q → q := fun _ h => h
  by_cases h0 : x_isSort p0 = 0
  · have hF : x_faultOfRod kd nd nr p0 p1 p2 = 2 := by
      unfold x_faultOfRod
      rw [if_pos h0]
    rw [hF, if_neg (by decide)]
    unfold m_rod
    rcases sort_iff.mp h0 with h1 | h2
    · rw [if_pos h1]
    · by_cases h1 : p0 < 0
      · rw [if_pos h1]
      · rw [if_neg h1, if_neg h2]
  · have h1 : ¬ p0 < 0 := fun q => h0 (sort_iff.mpr (Or.inl q))
    have h2 : p0 ≤ 3 := Decidable.byContradiction (fun q => h0 (sort_iff.mpr (Or.inr q)))
    by_cases h3 : x_isDial nd p1 = 0
    · have hF : x_faultOfRod kd nd nr p0 p1 p2 = 1 := by
        unfold x_faultOfRod
        rw [if_neg h0, if_pos h3]
      rw [hF, if_neg (by decide)]
      unfold m_rod
      rw [if_neg h1, if_pos h2, if_pos (show m_isDial nd p1 = 0 from h3)]
    · by_cases h4 : x_isDial nd p2 = 0
      · have hF : x_faultOfRod kd nd nr p0 p1 p2 = 1 := by
          unfold x_faultOfRod
          rw [if_neg h0, if_neg h3, if_pos h4]
        rw [hF, if_neg (by decide)]
        unfold m_rod
        rw [if_neg h1, if_pos h2, if_neg (show ¬ m_isDial nd p1 = 0 from h3), if_pos (show m_isDial nd p2 = 0 from h4)]
      · by_cases h5 : m_reason kd p0 p1 p2 = 0
        · by_cases h6 : nr = 24
          · have hF : x_faultOfRod kd nd nr p0 p1 p2 = 5 := by
              unfold x_faultOfRod
              rw [if_neg h0, if_neg h3, if_neg h4, pair_eq hk, if_pos h5, if_neg (fun q => (nr_lt hn).mp q h6)]
            rw [hF, if_neg (by decide)]
            unfold m_rod
            rw [if_neg h1, if_pos h2, if_neg (show ¬ m_isDial nd p1 = 0 from h3), if_neg (show ¬ m_isDial nd p2 = 0 from h4), if_pos (reason_0.mpr h5), if_pos h6]
          · have hF : x_faultOfRod kd nd nr p0 p1 p2 = 0 := by
              unfold x_faultOfRod
              rw [if_neg h0, if_neg h3, if_neg h4, pair_eq hk, if_pos h5, if_pos ((nr_lt hn).mpr h6)]
            rw [hF, if_pos rfl]
            unfold m_rod
            rw [if_neg h1, if_pos h2, if_neg (show ¬ m_isDial nd p1 = 0 from h3), if_neg (show ¬ m_isDial nd p2 = 0 from h4), if_pos (reason_0.mpr h5), if_neg h6, add_sub1]
        · have hF : x_faultOfRod kd nd nr p0 p1 p2 = m_reason kd p0 p1 p2 := by
            unfold x_faultOfRod
            rw [if_neg h0, if_neg h3, if_neg h4, pair_eq hk, if_neg h5]
          rw [hF, if_neg h5]
          unfold m_rod
          rw [if_neg h1, if_pos h2, if_neg (show ¬ m_isDial nd p1 = 0 from h3), if_neg (show ¬ m_isDial nd p2 = 0 from h4), if_neg (fun q => h5 (reason_0.mp q))]
theorem rod_facts {kd : Nat → Int32} {nd nr s a b : Int32} (hk : ∀ j, okK (kd j)) (h : x_faultOfRod kd nd nr s a b = 0) : ¬ x_isDial nd a = 0 ∧ ¬ x_isDial nd b = 0 ∧ m_reason kd s a b = 0 ∧ nr < 24 := by
  unfold x_faultOfRod at h
  by_cases h0 : x_isSort s = 0
  · rw [if_pos h0] at h
    exact absurd h (by decide)
  · rw [if_neg h0] at h
    by_cases h3 : x_isDial nd a = 0
    · rw [if_pos h3] at h
      exact absurd h (by decide)
    · rw [if_neg h3] at h
      by_cases h4 : x_isDial nd b = 0
      · rw [if_pos h4] at h
        exact absurd h (by decide)
      · rw [if_neg h4, pair_eq hk] at h
        by_cases h5 : m_reason kd s a b = 0
        · rw [if_pos h5] at h
          by_cases h6 : nr < 24
          · exact ⟨h3, h4, h5, h6⟩
          · rw [if_neg h6] at h
            exact absurd h (by decide)
        · rw [if_neg h5] at h
          exact absurd h h5
theorem op_rod {kd : Nat → Int32} {lo hi vl : Nat → Int64} {nd : Int32} {so fr tg gn : Nat → Int32} {nr mo ma fa : Int32} {sv : Nat → Int64} {sd : Nat → Int32} {se sh : Int32} {gm : Nat → Int32} {kp ah : Nat → Int64} {kx : Nat → Int32} {st mp : Int32} {op nx : Nat → Int32} {p0 p1 p2 : Int32} (hS : RelS kd lo hi vl nd so fr tg nr) (hK : RelK kd nd sv sd se sh kp kx st) : Post (x_rod kd lo hi vl nd so fr tg gn nr mo ma fa sv sd se sh p0 p1 p2) (m_rod kd vl lo hi nd so fr tg gm nr kp ah kx st mp ma fa op nx p0 p1 p2) := by
  obtain ⟨s1, s2, s3, s4, s5, s6, s7, s8⟩ := id hS
  rw [m_rod_form s4 s2]
  unfold x_rod
  by_cases hF : x_faultOfRod kd nd nr p0 p1 p2 = 0
  · rw [if_pos hF, if_pos hF]
    obtain ⟨f1, f2, f3, f4⟩ := rod_facts s4 hF
    obtain ⟨g1, g2⟩ := reason_ok s4 f3
    have d1 := dial_nat s1 f1
    have d2 := dial_nat s1 f2
    have hp2 := in_d s1.2 f2
    obtain ⟨r, hr, rfl⟩ : ∃ r : Nat, r ≤ 24 ∧ nr = nI r := nI_of2 (M := 24) (n := 24) (by decide) (Int32.not_lt.mpr s2.1) s2.2
    have hr2 : r < 24 := (nI_ltI (b := 24) (by omega) (by decide)).mp f4
    have hc : (nI r).toNatClampNeg = r := nI_clamp (by omega)
    have hc1 : (nI (r + 1)).toNatClampNeg = r + 1 := nI_clamp (by omega)
    rw [nI_1, hc]
    refine ⟨rfl, rfl, rfl, rfl, rfl, rfl, rfl, rfl, rfl, rfl, rfl, hF, ⟨s1, ⟨nI_pos' (by omega), nI_le (b := 24) (by omega) (by decide)⟩, upd_in (P := fun x => vp_in x 16) s3 hp2, s4, s5, s6, s7, ?_⟩, hK⟩
    intro i hi
    rw [hc1] at hi
    by_cases hir : i = r
    · rw [hir, pk_us, pk_us, pk_us]
      exact ⟨d1, d2, g1, g2⟩
    · rw [pk_un hir, pk_un hir, pk_un hir]
      exact s8 i (by rw [hc]; omega)
  · rw [if_neg hF, if_neg hF]
    exact ⟨rfl, rfl, rfl, rfl, rfl, rfl, rfl, rfl, rfl, rfl, rfl, rfl, hS, hK⟩
theorem cmp_val {k : Int32} {a b : Int64} (hk : okK k) : n_compared k a b = if m_isAbove k a b = 0 then (if m_isAbove k b a = 0 then 0 else -1) else 1 := by
  unfold n_compared
  rw [rank_eq hk, rank_eq hk]
  by_cases h1 : m_rank k a ≤ m_rank k b
  · rw [if_pos h1, if_pos (above_0.mpr h1)]
    by_cases h2 : m_rank k b ≤ m_rank k a
    · rw [if_pos h2, if_pos (above_0.mpr h2)]
    · rw [if_neg h2, if_neg (fun q => h2 (above_0.mp q))]
  · rw [if_neg h1, if_neg (fun q => h1 (above_0.mp q))]
theorem op_order {kd : Nat → Int32} {lo hi vl : Nat → Int64} {nd : Int32} {so fr tg gn : Nat → Int32} {nr mo ma fa : Int32} {sv : Nat → Int64} {sd : Nat → Int32} {se sh : Int32} {gm : Nat → Int32} {kp ah : Nat → Int64} {kx : Nat → Int32} {st mp : Int32} {op nx : Nat → Int32} {p0 p1 : Int32} (hS : RelS kd lo hi vl nd so fr tg nr) (hK : RelK kd nd sv sd se sh kp kx st) : Post (x_order kd lo hi vl nd so fr tg gn nr mo ma fa sv sd se sh p0 p1) (m_order kd vl lo hi nd so fr tg gm nr kp ah kx st mp ma fa op nx p0 p1) := by
  obtain ⟨s1, s2, s3, s4, s5, s6, s7, s8⟩ := id hS
  unfold x_order
  by_cases h1 : x_isDial nd p0 = 0
  · have hF : x_faultOfOrder kd nd p0 p1 = 1 := by
      unfold x_faultOfOrder
      rw [if_pos h1]
    rw [hF, if_neg (by decide)]
    unfold m_order
    rw [if_pos (show m_isDial nd p0 = 0 from h1)]
    exact ⟨rfl, rfl, rfl, rfl, rfl, rfl, rfl, rfl, rfl, rfl, rfl, rfl, hS, hK⟩
  · by_cases h2 : x_isDial nd p1 = 0
    · have hF : x_faultOfOrder kd nd p0 p1 = 1 := by
        unfold x_faultOfOrder
        rw [if_neg h1, if_pos h2]
      rw [hF, if_neg (by decide)]
      unfold m_order
      rw [if_neg (show ¬ m_isDial nd p0 = 0 from h1), if_pos (show m_isDial nd p1 = 0 from h2)]
      exact ⟨rfl, rfl, rfl, rfl, rfl, rfl, rfl, rfl, rfl, rfl, rfl, rfl, hS, hK⟩
    · by_cases h3 : kd p0.toNatClampNeg = kd p1.toNatClampNeg
      · have hF : x_faultOfOrder kd nd p0 p1 = 0 := by
          unfold x_faultOfOrder
          rw [if_neg h1, if_neg h2, if_pos h3]
        rw [hF, if_pos rfl]
        unfold m_order
        rw [if_neg (show ¬ m_isDial nd p0 = 0 from h1), if_neg (show ¬ m_isDial nd p1 = 0 from h2), if_pos h3, cmp_val (s4 _)]
        by_cases h4 : m_isAbove (kd p0.toNatClampNeg) (vl p0.toNatClampNeg) (vl p1.toNatClampNeg) = 0
        · rw [if_pos h4, if_pos h4]
          by_cases h5 : m_isAbove (kd p0.toNatClampNeg) (vl p1.toNatClampNeg) (vl p0.toNatClampNeg) = 0
          · rw [if_pos h5, if_pos h5]
            exact ⟨rfl, rfl, rfl, rfl, rfl, rfl, rfl, rfl, rfl, rfl, rfl, rfl, hS, hK⟩
          · rw [if_neg h5, if_neg h5]
            exact ⟨rfl, rfl, rfl, rfl, rfl, rfl, rfl, rfl, rfl, rfl, rfl, rfl, hS, hK⟩
        · rw [if_neg h4, if_neg h4]
          exact ⟨rfl, rfl, rfl, rfl, rfl, rfl, rfl, rfl, rfl, rfl, rfl, rfl, hS, hK⟩
      · have hF : x_faultOfOrder kd nd p0 p1 = 6 := by
          unfold x_faultOfOrder
          rw [if_neg h1, if_neg h2, if_neg h3]
        rw [hF, if_neg (by decide)]
        unfold m_order
        rw [if_neg (show ¬ m_isDial nd p0 = 0 from h1), if_neg (show ¬ m_isDial nd p1 = 0 from h2), if_neg h3]
        exact ⟨rfl, rfl, rfl, rfl, rfl, rfl, rfl, rfl, rfl, rfl, rfl, rfl, hS, hK⟩
theorem op_back {kd : Nat → Int32} {lo hi vl : Nat → Int64} {nd : Int32} {so fr tg gn : Nat → Int32} {nr mo ma fa : Int32} {sv : Nat → Int64} {sd : Nat → Int32} {se sh : Int32} {gm : Nat → Int32} {kp ah : Nat → Int64} {kx : Nat → Int32} {st mp : Int32} {op nx : Nat → Int32} (hS : RelS kd lo hi vl nd so fr tg nr) (hK : RelK kd nd sv sd se sh kp kx st) : Post (x_back kd lo hi vl nd so fr tg gn nr mo ma fa sv sd se sh) (m_back kd vl lo hi nd so fr tg gm nr kp ah kx st mp ma fa op nx) := by
  obtain ⟨s1, s2, s3, s4, s5, s6, s7, s8⟩ := id hS
  have hst : sh = st := hK.2.1
  unfold x_back m_back
  by_cases h0 : st = 0
  · rw [if_pos (show s_held sh = 0 by rw [hst]; exact h0), if_pos h0]
    exact ⟨rfl, rfl, rfl, rfl, rfl, rfl, rfl, rfl, rfl, rfl, rfl, rfl, hS, hK⟩
  · rw [if_neg (show ¬ s_held sh = 0 by rw [hst]; exact h0), if_neg h0]
    obtain ⟨b1, b2, b3⟩ := rel_back s1 s7 hK h0 s4
    rw [b2]
    exact ⟨rfl, rfl, rfl, rfl, rfl, rfl, rfl, rfl, rfl, rfl, rfl, rfl, ⟨s1, s2, s3, s4, s5, s6, b3, s8⟩, b1⟩
