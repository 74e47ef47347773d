theorem in_fs {kd : Nat → Int32} {nd d : Int32} {v : Int64} (hn : nd ≤ 16) (h : x_faultOfSet kd nd d v = 0) : vp_in d 16 := by
  unfold x_faultOfSet at h
  by_cases h1 : x_isDial nd d = 0
  · rw [if_pos h1] at h
    exact absurd h (by decide)
  · exact in_d hn h1
theorem in_ft {kd : Nat → Int32} {nd d : Int32} {v : Int32} (hn : nd ≤ 16) (h : x_faultOfTurn kd nd d v = 0) : vp_in d 16 := by
  unfold x_faultOfTurn at h
  by_cases h1 : x_isDial nd d = 0
  · rw [if_pos h1] at h
    exact absurd h (by decide)
  · exact in_d hn h1
theorem in_fk {kd : Nat → Int32} {nd d e v : Int32} (hn : nd ≤ 16) (h : x_faultOfTake kd nd d e v = 0) : vp_in d 16 ∧ vp_in e 16 := by
  unfold x_faultOfTake at h
  by_cases h1 : x_isDial nd d = 0
  · rw [if_pos h1] at h
    exact absurd h (by decide)
  · rw [if_neg h1] at h
    by_cases h2 : x_isDial nd e = 0
    · rw [if_pos h2] at h
      exact absurd h (by decide)
    · exact ⟨in_d hn h1, in_d hn h2⟩
theorem in_fo {kd : Nat → Int32} {nd d e : Int32} (hn : nd ≤ 16) (h : x_faultOfOrder kd nd d e = 0) : vp_in d 16 ∧ vp_in e 16 := by
  unfold x_faultOfOrder at h
  by_cases h1 : x_isDial nd d = 0
  · rw [if_pos h1] at h
    exact absurd h (by decide)
  · rw [if_neg h1] at h
    by_cases h2 : x_isDial nd e = 0
    · rw [if_pos h2] at h
      exact absurd h (by decide)
    · exact ⟨in_d hn h1, in_d hn h2⟩
theorem in_fd {nd k : Int32} {x y : Int64} (h0 : 0 ≤ nd) (h : x_faultOfDial nd k x y = 0) : vp_in nd 16 := by
  have hl : nd < 16 := by
    unfold x_faultOfDial at h
    by_cases h1 : k < 0
    · rw [if_pos h1] at h
      exact absurd h (by decide)
    · rw [if_neg h1] at h
      by_cases h2 : k ≤ 3
      · rw [if_pos h2] at h
        by_cases h3 : nd < 16
        · exact h3
        · rw [if_neg h3] at h
          exact absurd h (by decide)
      · rw [if_neg h2] at h
        exact absurd h (by decide)
  rw [vp_in_iff]
  rw [Int32.le_iff_toInt_le] at h0
  rw [Int32.lt_iff_toInt_lt] at hl
  have e0 : (0 : Int32).toInt = 0 := by decide
  have e16 : (16 : Int32).toInt = 16 := by decide
  omega
theorem in_fr {kd : Nat → Int32} {nd nr x y z : Int32} (h0 : 0 ≤ nr) (h : x_faultOfRod kd nd nr x y z = 0) : vp_in nr 24 := by
  have hl : nr < 24 := by
    unfold x_faultOfRod at h
    by_cases h1 : x_isSort x = 0
    · rw [if_pos h1] at h
      exact absurd h (by decide)
    · rw [if_neg h1] at h
      by_cases h2 : x_isDial nd y = 0
      · rw [if_pos h2] at h
        exact absurd h (by decide)
      · rw [if_neg h2] at h
        by_cases h3 : x_isDial nd z = 0
        · rw [if_pos h3] at h
          exact absurd h (by decide)
        · rw [if_neg h3] at h
          by_cases h4 : x_faultOfPair kd x y z = 0
          · rw [if_pos h4] at h
            by_cases h5 : nr < 24
            · exact h5
            · rw [if_neg h5] at h
              exact absurd h (by decide)
          · rw [if_neg h4] at h
            exact absurd h h4
  rw [vp_in_iff]
  rw [Int32.le_iff_toInt_le] at h0
  rw [Int32.lt_iff_toInt_lt] at hl
  have e0 : (0 : Int32).toInt = 0 := by decide
  have e24 : (24 : Int32).toInt = 24 := by decide
  omega
def x_set (kd : Nat → Int32) (lo : Nat → Int64) (hi : Nat → Int64) (vl : Nat → Int64) (nd : Int32) (so : Nat → Int32) (fr : Nat → Int32) (tg : Nat → Int32) (gn : Nat → Int32) (nr : Int32) (mo : Int32) (ma : Int32) (fa : Int32) (sv : Nat → Int64) (sd : Nat → Int32) (se : Int32) (sh : Int32) (p0 : Int32) (p1 : Int64) : Int32 × XS :=
  if (x_faultOfSet kd nd p0 p1) = 0 then ((x_gets kd lo hi nd so fr tg nr.toNatClampNeg 24 (vl, (clr gn nr.toNatClampNeg), (0 : Int32), ma, sv, sd, se, sh) p0 p1).2.2.1, kd, lo, hi, (x_gets kd lo hi nd so fr tg nr.toNatClampNeg 24 (vl, (clr gn nr.toNatClampNeg), (0 : Int32), ma, sv, sd, se, sh) p0 p1).1, nd, so, fr, tg, (x_gets kd lo hi nd so fr tg nr.toNatClampNeg 24 (vl, (clr gn nr.toNatClampNeg), (0 : Int32), ma, sv, sd, se, sh) p0 p1).2.1, nr, (x_gets kd lo hi nd so fr tg nr.toNatClampNeg 24 (vl, (clr gn nr.toNatClampNeg), (0 : Int32), ma, sv, sd, se, sh) p0 p1).2.2.1, (x_gets kd lo hi nd so fr tg nr.toNatClampNeg 24 (vl, (clr gn nr.toNatClampNeg), (0 : Int32), ma, sv, sd, se, sh) p0 p1).2.2.2.1, (x_faultOfSet kd nd p0 p1), (x_gets kd lo hi nd so fr tg nr.toNatClampNeg 24 (vl, (clr gn nr.toNatClampNeg), (0 : Int32), ma, sv, sd, se, sh) p0 p1).2.2.2.2.1, (x_gets kd lo hi nd so fr tg nr.toNatClampNeg 24 (vl, (clr gn nr.toNatClampNeg), (0 : Int32), ma, sv, sd, se, sh) p0 p1).2.2.2.2.2.1, (x_gets kd lo hi nd so fr tg nr.toNatClampNeg 24 (vl, (clr gn nr.toNatClampNeg), (0 : Int32), ma, sv, sd, se, sh) p0 p1).2.2.2.2.2.2.1, (x_gets kd lo hi nd so fr tg nr.toNatClampNeg 24 (vl, (clr gn nr.toNatClampNeg), (0 : Int32), ma, sv, sd, se, sh) p0 p1).2.2.2.2.2.2.2)
  else ((-1 : Int32), kd, lo, hi, vl, nd, so, fr, tg, gn, nr, mo, ma, (x_faultOfSet kd nd p0 p1), sv, sd, se, sh)
set_option maxHeartbeats 4000000 in
set_option maxRecDepth 100000 in
theorem c_X2_set (l : Launch) (dC : Nat → ClassId) (dI : Nat → Nat → Nat) (cI cJ cZ : ClassId) (a : Nat → Nat) (kd : Nat → Int32) (lo : Nat → Int64) (hi : Nat → Int64) (vl : Nat → Int64) (nd : Int32) (so : Nat → Int32) (fr : Nat → Int32) (tg : Nat → Int32) (gn : Nat → Int32) (nr : Int32) (mo : Int32) (ma : Int32) (fa : Int32) (sv : Nat → Int64) (sd : Nat → Int32) (se : Int32) (sh : Int32) (p0 : Int32) (p1 : Int64) (hE : okE se sh) (hn : 0 ≤ nd ∧ nd ≤ 16) (hnr : 0 ≤ nr ∧ nr ≤ 24) (htg : ∀ j, vp_in (tg j) 16) (sz : Nat) : Met l yX2_set wsX2_set ({ frames := 31, cells := 0, slots := 0, locals := 819 }) (va_Pc [.ref (a 0), .int p0, .long p1] (fun U => U.heap.size = sz ∧ va_P (dC, dI) vwCl (wX cI cJ cZ a kd lo hi vl nd so fr tg gn nr mo ma fa sv sd se sh) U.heap ∧ va_K (dC, dI) vwCl (tA cI cJ cZ) U ∧ va_D (fun _ => True) (wX cI cJ cZ a kd lo hi vl nd so fr tg gn nr mo ma fa sv sd se sh))) (va_Qi (fun (r : Int32) (u : XS) => (r, u) = x_set kd lo hi vl nd so fr tg gn nr mo ma fa sv sd se sh p0 p1) (at_X dC dI cI cJ cZ (va_A (wX cI cJ cZ a kd lo hi vl nd so fr tg gn nr mo ma fa sv sd se sh) sz) a) (va_A (wX cI cJ cZ a kd lo hi vl nd so fr tg gn nr mo ma fa sv sd se sh) sz)) 0 0 (va_A (wX cI cJ cZ a kd lo hi vl nd so fr tg gn nr mo ma fa sv sd se sh) sz) := by
  refine Met.ofW (cc := cX2_set) (maxL := 4) (ret := (some .int)) (by decide) rfl ?_
  intro p e s m args below meth c s₁ B hml hv
  obtain ⟨rfl, hsz, hP, hK, hD0⟩ := hv
  subst hsz
  have hD := hD0.self (sz := s.heap.size)
  generalize hAe : va_A (wX cI cJ cZ a kd lo hi vl nd so fr tg gn nr mo ma fa sv sd se sh) s.heap.size = A at hD ⊢
  have hA : ∀ q : Nat, s.heap.size ≤ q → A q := fun q h => by rw [← hAe]; exact Or.inr h
  have hS : va_S A s.heap s.heap [] := va_S.rf
  have hP : va_P (dC, dI) vwCl (wX cI cJ cZ a kd lo hi vl nd so fr tg gn nr mo ma fa sv sd se sh) s.heap := hP
  have hx := B.exec
  have hb := B.bytes
  have hr := B.returns
  have hts := atoms_spec (ws := wsX2_set) B.pre
  have hown : s.vm.findClass RX2 = some m.cls := findClass_of_methodNamed B.named
  have hlocks := B.notSynchronized
  have h_inX2 : ∀ w ∈ wsX20, w ∈ wsX2_set := fun _ h => List.mem_cons_of_mem _ (List.mem_append_left _ (List.mem_append_right _ h))
  have k_0 := hts (.fieldLink RX2 47 "DetentCabinet" "fault" "I") (by decide +kernel)
  have hl := lv_entry ([.ref (a 0), .int p0, .long p1]) (n := 4) (Nat.le_of_ble_eq_true rfl)
  rw [lg_entry_eq]
  generalize (lg_sl ([.ref (a 0), .int p0, .long p1]) ++ List.replicate (4 - (lg_sl ([.ref (a 0), .int p0, .long p1])).length) Slot.unset).toArray = ls at hl ⊢
  have hl : lv_has ls 4 [(0, .ref (a 0)), (1, .int p0), (2, .long p1)] := hl
  refine lv_aload_n hx hb dX2_set_0 rfl (lv_at hl 0 rfl) ?_
  refine lv_aload_n hx hb dX2_set_1 rfl (lv_at hl 0 rfl) ?_
  refine lv_iload_n hx hb dX2_set_2 rfl (lv_at hl 1 rfl) ?_
  refine lv_lload_n hx hb dX2_set_3 rfl (lv_at hl 2 rfl) ?_
  refine cs_i (W.runV (As := [.int p0, .long p1]) (rest := [.ref (a 0)]) ⟨hx, hb, hml, hown, hts⟩ (c_X2_faultOfSet l dC dI cI cJ cZ a kd lo hi vl nd so fr tg gn nr mo ma fa sv sd se sh p0 p1 hn.2) (cwV 2 hts gX2_set_X2_faultOfSet rfl rfl rfl (by decide +kernel) ⟨Nat.le_of_ble_eq_true rfl, Nat.le_of_ble_eq_true rfl⟩) (fb_v hK hP (va_recv hK hP (ci := 1) (q0 := 0) rfl rfl)) rfl rfl hl.1 rfl (lv_room (Nat.le_of_ble_eq_true rfl)) dX2_set_4 ⟨Nat.zero_le _, Nat.zero_le _⟩) ?_
  refine va_put (D := (dC, dI)) (ci := 1) (v := .int (x_faultOfSet kd nd p0 p1)) (ty := .int) (C := RX2) (T := TX2) (N := 14) hx hb hts h_inX2 tyX2 tyX2_ok nmX2 hown hK hP hD hS 0 rfl rfl 13 (by decide) k_0 (fun _ h9 => h9) rfl (by decide +kernel) rfl rfl (Nat.le_of_ble_eq_true rfl) dX2_set_7 (fun H locs hP hD hS => ?_)
  have hP : va_P (dC, dI) vwCl (wX cI cJ cZ a kd lo hi vl nd so fr tg gn nr mo ma (x_faultOfSet kd nd p0 p1) sv sd se sh) H := hP
  have hD : va_D A (wX cI cJ cZ a kd lo hi vl nd so fr tg gn nr mo ma (x_faultOfSet kd nd p0 p1) sv sd se sh) := hD
  refine lv_aload_n hx hb dX2_set_10 rfl (lv_at hl 0 rfl) ?_
  refine va_get (D := (dC, dI)) (ci := 1) (v := .int (x_faultOfSet kd nd p0 p1)) (C := RX2) (T := TX2) (N := 14) hx hb hts h_inX2 hown hK hP 0 rfl rfl 13 (by decide) k_0 (fun _ h9 => h9) rfl dX2_set_11 ?_
  refine lv_if_eq (tgt := 19) hx hb dX2_set_14 (by decide) (fun c_1 => ?_) (fun c_1 => ?_)
  · skip
    refine lv_aload_n hx hb dX2_set_19 rfl (lv_at hl 0 rfl) ?_
    refine lv_iload_n hx hb dX2_set_20 rfl (lv_at hl 1 rfl) ?_
    refine lv_lload_n hx hb dX2_set_21 rfl (lv_at hl 2 rfl) ?_
    have hFc := va_free (wc := (wX cI cJ cZ a kd lo hi vl nd so fr tg gn nr mo ma (x_faultOfSet kd nd p0 p1) sv sd se sh)) hD hS hA [0, 1, 2, 3, 4, 5, 6, 7, 8, 9, 10, 11] rfl
    refine va_calli (va_runV (As := [.int p0, .long p1]) (rest := []) ⟨hx, hb, hml, hown, hts⟩ (c_X2_movesWhenGiven l dC dI cI cJ cZ a kd lo hi vl nd so fr tg gn nr mo ma (x_faultOfSet kd nd p0 p1) sv sd se sh p0 p1 hE hn hnr htg (in_fs hn.2 (by assumption)) H.size) (cwV 2 hts gX2_set_X2_movesWhenGiven rfl rfl rfl (by decide +kernel) ⟨Nat.le_of_ble_eq_true rfl, Nat.le_of_ble_eq_true rfl⟩) (fb_m hK hP hD (va_recv hK hP (ci := 1) (q0 := 0) rfl rfl)) rfl rfl hl.1 rfl (lv_room (Nat.le_of_ble_eq_true rfl)) dX2_set_22 ⟨Nat.zero_le _, Nat.zero_le _⟩) hS (fun q _ h => hFc q h) hFc (fun r_2 u t H1 locs ht hvm hw_2 hB hz1 hk1 hS => ?_)
    obtain ⟨kd_2, lo_2, hi_2, vl_2, nd_2, so_2, fr_2, tg_2, gn_2, nr_2, mo_2, ma_2, fa_2, sv_2, sd_2, se_2, sh_2⟩ := u
    rw [x_mwg_eq] at hw_2
    have hw_2 := hw_2.symm
    simp only [Prod.mk.injEq] at hw_2
    obtain ⟨rfl, rfl, rfl, rfl, rfl, rfl, rfl, rfl, rfl, rfl, rfl, rfl, rfl, rfl, rfl, rfl, rfl, rfl⟩ := hw_2
    obtain ⟨hP1, hK1, hD1⟩ := hB
    rw [ht] at hP1
    obtain ⟨hP, hD⟩ := va_join (wr := []) (w1 := (wX cI cJ cZ a kd lo hi ((x_gets kd lo hi nd so fr tg nr.toNatClampNeg 24 (vl, (clr gn nr.toNatClampNeg), (0 : Int32), ma, sv, sd, se, sh) p0 p1).1) nd so fr tg ((x_gets kd lo hi nd so fr tg nr.toNatClampNeg 24 (vl, (clr gn nr.toNatClampNeg), (0 : Int32), ma, sv, sd, se, sh) p0 p1).2.1) nr ((x_gets kd lo hi nd so fr tg nr.toNatClampNeg 24 (vl, (clr gn nr.toNatClampNeg), (0 : Int32), ma, sv, sd, se, sh) p0 p1).2.2.1) ((x_gets kd lo hi nd so fr tg nr.toNatClampNeg 24 (vl, (clr gn nr.toNatClampNeg), (0 : Int32), ma, sv, sd, se, sh) p0 p1).2.2.2.1) (x_faultOfSet kd nd p0 p1) ((x_gets kd lo hi nd so fr tg nr.toNatClampNeg 24 (vl, (clr gn nr.toNatClampNeg), (0 : Int32), ma, sv, sd, se, sh) p0 p1).2.2.2.2.1) ((x_gets kd lo hi nd so fr tg nr.toNatClampNeg 24 (vl, (clr gn nr.toNatClampNeg), (0 : Int32), ma, sv, sd, se, sh) p0 p1).2.2.2.2.2.1) ((x_gets kd lo hi nd so fr tg nr.toNatClampNeg 24 (vl, (clr gn nr.toNatClampNeg), (0 : Int32), ma, sv, sd, se, sh) p0 p1).2.2.2.2.2.2.1) ((x_gets kd lo hi nd so fr tg nr.toNatClampNeg 24 (vl, (clr gn nr.toNatClampNeg), (0 : Int32), ma, sv, sd, se, sh) p0 p1).2.2.2.2.2.2.2))) hP hD [0, 1, 2, 3, 4, 5, 6, 7, 8, 9, 10, 11] [] rfl rfl (by decide) (by decide) hk1 hFc hP1 hD1
    generalize H1 = H at hP hS ⊢
    have hP : va_P (dC, dI) vwCl (wX cI cJ cZ a kd lo hi ((x_gets kd lo hi nd so fr tg nr.toNatClampNeg 24 (vl, (clr gn nr.toNatClampNeg), (0 : Int32), ma, sv, sd, se, sh) p0 p1).1) nd so fr tg ((x_gets kd lo hi nd so fr tg nr.toNatClampNeg 24 (vl, (clr gn nr.toNatClampNeg), (0 : Int32), ma, sv, sd, se, sh) p0 p1).2.1) nr ((x_gets kd lo hi nd so fr tg nr.toNatClampNeg 24 (vl, (clr gn nr.toNatClampNeg), (0 : Int32), ma, sv, sd, se, sh) p0 p1).2.2.1) ((x_gets kd lo hi nd so fr tg nr.toNatClampNeg 24 (vl, (clr gn nr.toNatClampNeg), (0 : Int32), ma, sv, sd, se, sh) p0 p1).2.2.2.1) (x_faultOfSet kd nd p0 p1) ((x_gets kd lo hi nd so fr tg nr.toNatClampNeg 24 (vl, (clr gn nr.toNatClampNeg), (0 : Int32), ma, sv, sd, se, sh) p0 p1).2.2.2.2.1) ((x_gets kd lo hi nd so fr tg nr.toNatClampNeg 24 (vl, (clr gn nr.toNatClampNeg), (0 : Int32), ma, sv, sd, se, sh) p0 p1).2.2.2.2.2.1) ((x_gets kd lo hi nd so fr tg nr.toNatClampNeg 24 (vl, (clr gn nr.toNatClampNeg), (0 : Int32), ma, sv, sd, se, sh) p0 p1).2.2.2.2.2.2.1) ((x_gets kd lo hi nd so fr tg nr.toNatClampNeg 24 (vl, (clr gn nr.toNatClampNeg), (0 : Int32), ma, sv, sd, se, sh) p0 p1).2.2.2.2.2.2.2)) H := hP
    have hD : va_D A (wX cI cJ cZ a kd lo hi ((x_gets kd lo hi nd so fr tg nr.toNatClampNeg 24 (vl, (clr gn nr.toNatClampNeg), (0 : Int32), ma, sv, sd, se, sh) p0 p1).1) nd so fr tg ((x_gets kd lo hi nd so fr tg nr.toNatClampNeg 24 (vl, (clr gn nr.toNatClampNeg), (0 : Int32), ma, sv, sd, se, sh) p0 p1).2.1) nr ((x_gets kd lo hi nd so fr tg nr.toNatClampNeg 24 (vl, (clr gn nr.toNatClampNeg), (0 : Int32), ma, sv, sd, se, sh) p0 p1).2.2.1) ((x_gets kd lo hi nd so fr tg nr.toNatClampNeg 24 (vl, (clr gn nr.toNatClampNeg), (0 : Int32), ma, sv, sd, se, sh) p0 p1).2.2.2.1) (x_faultOfSet kd nd p0 p1) ((x_gets kd lo hi nd so fr tg nr.toNatClampNeg 24 (vl, (clr gn nr.toNatClampNeg), (0 : Int32), ma, sv, sd, se, sh) p0 p1).2.2.2.2.1) ((x_gets kd lo hi nd so fr tg nr.toNatClampNeg 24 (vl, (clr gn nr.toNatClampNeg), (0 : Int32), ma, sv, sd, se, sh) p0 p1).2.2.2.2.2.1) ((x_gets kd lo hi nd so fr tg nr.toNatClampNeg 24 (vl, (clr gn nr.toNatClampNeg), (0 : Int32), ma, sv, sd, se, sh) p0 p1).2.2.2.2.2.2.1) ((x_gets kd lo hi nd so fr tg nr.toNatClampNeg 24 (vl, (clr gn nr.toNatClampNeg), (0 : Int32), ma, sv, sd, se, sh) p0 p1).2.2.2.2.2.2.2)) := hD
    exact W.iret (v := (x_gets kd lo hi nd so fr tg nr.toNatClampNeg 24 (vl, (clr gn nr.toNatClampNeg), (0 : Int32), ma, sv, sd, se, sh) p0 p1).2.2.1) hx hb hr (fun t ht hW => ⟨⟨(x_gets kd lo hi nd so fr tg nr.toNatClampNeg 24 (vl, (clr gn nr.toNatClampNeg), (0 : Int32), ma, sv, sd, se, sh) p0 p1).2.2.1, (kd, lo, hi, (x_gets kd lo hi nd so fr tg nr.toNatClampNeg 24 (vl, (clr gn nr.toNatClampNeg), (0 : Int32), ma, sv, sd, se, sh) p0 p1).1, nd, so, fr, tg, (x_gets kd lo hi nd so fr tg nr.toNatClampNeg 24 (vl, (clr gn nr.toNatClampNeg), (0 : Int32), ma, sv, sd, se, sh) p0 p1).2.1, nr, (x_gets kd lo hi nd so fr tg nr.toNatClampNeg 24 (vl, (clr gn nr.toNatClampNeg), (0 : Int32), ma, sv, sd, se, sh) p0 p1).2.2.1, (x_gets kd lo hi nd so fr tg nr.toNatClampNeg 24 (vl, (clr gn nr.toNatClampNeg), (0 : Int32), ma, sv, sd, se, sh) p0 p1).2.2.2.1, (x_faultOfSet kd nd p0 p1), (x_gets kd lo hi nd so fr tg nr.toNatClampNeg 24 (vl, (clr gn nr.toNatClampNeg), (0 : Int32), ma, sv, sd, se, sh) p0 p1).2.2.2.2.1, (x_gets kd lo hi nd so fr tg nr.toNatClampNeg 24 (vl, (clr gn nr.toNatClampNeg), (0 : Int32), ma, sv, sd, se, sh) p0 p1).2.2.2.2.2.1, (x_gets kd lo hi nd so fr tg nr.toNatClampNeg 24 (vl, (clr gn nr.toNatClampNeg), (0 : Int32), ma, sv, sd, se, sh) p0 p1).2.2.2.2.2.2.1, (x_gets kd lo hi nd so fr tg nr.toNatClampNeg 24 (vl, (clr gn nr.toNatClampNeg), (0 : Int32), ma, sv, sd, se, sh) p0 p1).2.2.2.2.2.2.2), rfl, (by unfold x_set; rw [if_pos c_1]), by rw [ht]; exact hP, va_K.moved hW.alike hK, hD⟩, hS.F ht⟩) hS.2.2 dX2_set_25
  · skip
    refine lv_iconst (v := (-1)) hx hb dX2_set_17 (by decide) ?_
    exact W.iret (v := (-1 : Int32)) hx hb hr (fun t ht hW => ⟨⟨(-1 : Int32), (kd, lo, hi, vl, nd, so, fr, tg, gn, nr, mo, ma, (x_faultOfSet kd nd p0 p1), sv, sd, se, sh), rfl, (by unfold x_set; rw [if_neg c_1]), by rw [ht]; exact hP, va_K.moved hW.alike hK, hD⟩, hS.F ht⟩) hS.2.2 dX2_set_18
def x_turn (kd : Nat → Int32) (lo : Nat → Int64) (hi : Nat → Int64) (vl : Nat → Int64) (nd : Int32) (so : Nat → Int32) (fr : Nat → Int32) (tg : Nat → Int32) (gn : Nat → Int32) (nr : Int32) (mo : Int32) (ma : Int32) (fa : Int32) (sv : Nat → Int64) (sd : Nat → Int32) (se : Int32) (sh : Int32) (p0 : Int32) (p1 : Int32) : Int32 × XS :=
  if (x_faultOfTurn kd nd p0 p1) = 0 then ((x_gets kd lo hi nd so fr tg nr.toNatClampNeg 24 (vl, (clr gn nr.toNatClampNeg), (0 : Int32), ma, sv, sd, se, sh) p0 (n_turned (kd p0.toNatClampNeg) (vl p0.toNatClampNeg) p1)).2.2.1, kd, lo, hi, (x_gets kd lo hi nd so fr tg nr.toNatClampNeg 24 (vl, (clr gn nr.toNatClampNeg), (0 : Int32), ma, sv, sd, se, sh) p0 (n_turned (kd p0.toNatClampNeg) (vl p0.toNatClampNeg) p1)).1, nd, so, fr, tg, (x_gets kd lo hi nd so fr tg nr.toNatClampNeg 24 (vl, (clr gn nr.toNatClampNeg), (0 : Int32), ma, sv, sd, se, sh) p0 (n_turned (kd p0.toNatClampNeg) (vl p0.toNatClampNeg) p1)).2.1, nr, (x_gets kd lo hi nd so fr tg nr.toNatClampNeg 24 (vl, (clr gn nr.toNatClampNeg), (0 : Int32), ma, sv, sd, se, sh) p0 (n_turned (kd p0.toNatClampNeg) (vl p0.toNatClampNeg) p1)).2.2.1, (x_gets kd lo hi nd so fr tg nr.toNatClampNeg 24 (vl, (clr gn nr.toNatClampNeg), (0 : Int32), ma, sv, sd, se, sh) p0 (n_turned (kd p0.toNatClampNeg) (vl p0.toNatClampNeg) p1)).2.2.2.1, (x_faultOfTurn kd nd p0 p1), (x_gets kd lo hi nd so fr tg nr.toNatClampNeg 24 (vl, (clr gn nr.toNatClampNeg), (0 : Int32), ma, sv, sd, se, sh) p0 (n_turned (kd p0.toNatClampNeg) (vl p0.toNatClampNeg) p1)).2.2.2.2.1, (x_gets kd lo hi nd so fr tg nr.toNatClampNeg 24 (vl, (clr gn nr.toNatClampNeg), (0 : Int32), ma, sv, sd, se, sh) p0 (n_turned (kd p0.toNatClampNeg) (vl p0.toNatClampNeg) p1)).2.2.2.2.2.1, (x_gets kd lo hi nd so fr tg nr.toNatClampNeg 24 (vl, (clr gn nr.toNatClampNeg), (0 : Int32), ma, sv, sd, se, sh) p0 (n_turned (kd p0.toNatClampNeg) (vl p0.toNatClampNeg) p1)).2.2.2.2.2.2.1, (x_gets kd lo hi nd so fr tg nr.toNatClampNeg 24 (vl, (clr gn nr.toNatClampNeg), (0 : Int32), ma, sv, sd, se, sh) p0 (n_turned (kd p0.toNatClampNeg) (vl p0.toNatClampNeg) p1)).2.2.2.2.2.2.2)
  else ((-1 : Int32), kd, lo, hi, vl, nd, so, fr, tg, gn, nr, mo, ma, (x_faultOfTurn kd nd p0 p1), sv, sd, se, sh)
set_option maxHeartbeats 4000000 in
set_option maxRecDepth 100000 in
theorem c_X2_turn (l : Launch) (dC : Nat → ClassId) (dI : Nat → Nat → Nat) (cI cJ cZ : ClassId) (a : Nat → Nat) (kd : Nat → Int32) (lo : Nat → Int64) (hi : Nat → Int64) (vl : Nat → Int64) (nd : Int32) (so : Nat → Int32) (fr : Nat → Int32) (tg : Nat → Int32) (gn : Nat → Int32) (nr : Int32) (mo : Int32) (ma : Int32) (fa : Int32) (sv : Nat → Int64) (sd : Nat → Int32) (se : Int32) (sh : Int32) (p0 : Int32) (p1 : Int32) (hE : okE se sh) (hn : 0 ≤ nd ∧ nd ≤ 16) (hnr : 0 ≤ nr ∧ nr ≤ 24) (htg : ∀ j, vp_in (tg j) 16) (sz : Nat) : Met l yX2_turn wsX2_turn ({ frames := 31, cells := 0, slots := 0, locals := 819 }) (va_Pc [.ref (a 0), .int p0, .int p1] (fun U => U.heap.size = sz ∧ va_P (dC, dI) vwCl (wX cI cJ cZ a kd lo hi vl nd so fr tg gn nr mo ma fa sv sd se sh) U.heap ∧ va_K (dC, dI) vwCl (tA cI cJ cZ) U ∧ va_D (fun _ => True) (wX cI cJ cZ a kd lo hi vl nd so fr tg gn nr mo ma fa sv sd se sh))) (va_Qi (fun (r : Int32) (u : XS) => (r, u) = x_turn kd lo hi vl nd so fr tg gn nr mo ma fa sv sd se sh p0 p1) (at_X dC dI cI cJ cZ (va_A (wX cI cJ cZ a kd lo hi vl nd so fr tg gn nr mo ma fa sv sd se sh) sz) a) (va_A (wX cI cJ cZ a kd lo hi vl nd so fr tg gn nr mo ma fa sv sd se sh) sz)) 0 0 (va_A (wX cI cJ cZ a kd lo hi vl nd so fr tg gn nr mo ma fa sv sd se sh) sz) := by
  refine Met.ofW (cc := cX2_turn) (maxL := 3) (ret := (some .int)) (by decide) rfl ?_
  intro p e s m args below meth c s₁ B hml hv
  obtain ⟨rfl, hsz, hP, hK, hD0⟩ := hv
  subst hsz
  have hD := hD0.self (sz := s.heap.size)
  generalize hAe : va_A (wX cI cJ cZ a kd lo hi vl nd so fr tg gn nr mo ma fa sv sd se sh) s.heap.size = A at hD ⊢
  have hA : ∀ q : Nat, s.heap.size ≤ q → A q := fun q h => by rw [← hAe]; exact Or.inr h
  have hS : va_S A s.heap s.heap [] := va_S.rf
  have hP : va_P (dC, dI) vwCl (wX cI cJ cZ a kd lo hi vl nd so fr tg gn nr mo ma fa sv sd se sh) s.heap := hP
  have hx := B.exec
  have hb := B.bytes
  have hr := B.returns
  have hts := atoms_spec (ws := wsX2_turn) B.pre
  have hown : s.vm.findClass RX2 = some m.cls := findClass_of_methodNamed B.named
  have hlocks := B.notSynchronized
  have h_inX2 : ∀ w ∈ wsX20, w ∈ wsX2_turn := fun _ h => List.mem_cons_of_mem _ (List.mem_append_left _ (List.mem_append_right _ h))
  have k_0 := hts (.fieldLink RX2 47 "DetentCabinet" "fault" "I") (by decide +kernel)
  have k_1 := hts (.fieldLink RX2 9 "DetentCabinet" "kinds" "[I") (by decide +kernel)
  have k_2 := hts (.fieldLink RX2 20 "DetentCabinet" "values" "[J") (by decide +kernel)
  have hl := lv_entry ([.ref (a 0), .int p0, .int p1]) (n := 3) (Nat.le_of_ble_eq_true rfl)
  rw [lg_entry_eq]
  generalize (lg_sl ([.ref (a 0), .int p0, .int p1]) ++ List.replicate (3 - (lg_sl ([.ref (a 0), .int p0, .int p1])).length) Slot.unset).toArray = ls at hl ⊢
  have hl : lv_has ls 3 [(0, .ref (a 0)), (1, .int p0), (2, .int p1)] := hl
  refine lv_aload_n hx hb dX2_turn_0 rfl (lv_at hl 0 rfl) ?_
  refine lv_aload_n hx hb dX2_turn_1 rfl (lv_at hl 0 rfl) ?_
  refine lv_iload_n hx hb dX2_turn_2 rfl (lv_at hl 1 rfl) ?_
  refine lv_iload_n hx hb dX2_turn_3 rfl (lv_at hl 2 rfl) ?_
  refine cs_i (W.runV (As := [.int p0, .int p1]) (rest := [.ref (a 0)]) ⟨hx, hb, hml, hown, hts⟩ (c_X2_faultOfTurn l dC dI cI cJ cZ a kd lo hi vl nd so fr tg gn nr mo ma fa sv sd se sh p0 p1 hn.2) (cwV 2 hts gX2_turn_X2_faultOfTurn rfl rfl rfl (by decide +kernel) ⟨Nat.le_of_ble_eq_true rfl, Nat.le_of_ble_eq_true rfl⟩) (fb_v hK hP (va_recv hK hP (ci := 1) (q0 := 0) rfl rfl)) rfl rfl hl.1 rfl (lv_room (Nat.le_of_ble_eq_true rfl)) dX2_turn_4 ⟨Nat.zero_le _, Nat.zero_le _⟩) ?_
  refine va_put (D := (dC, dI)) (ci := 1) (v := .int (x_faultOfTurn kd nd p0 p1)) (ty := .int) (C := RX2) (T := TX2) (N := 14) hx hb hts h_inX2 tyX2 tyX2_ok nmX2 hown hK hP hD hS 0 rfl rfl 13 (by decide) k_0 (fun _ h9 => h9) rfl (by decide +kernel) rfl rfl (Nat.le_of_ble_eq_true rfl) dX2_turn_7 (fun H locs hP hD hS => ?_)
  have hP : va_P (dC, dI) vwCl (wX cI cJ cZ a kd lo hi vl nd so fr tg gn nr mo ma (x_faultOfTurn kd nd p0 p1) sv sd se sh) H := hP
  have hD : va_D A (wX cI cJ cZ a kd lo hi vl nd so fr tg gn nr mo ma (x_faultOfTurn kd nd p0 p1) sv sd se sh) := hD
  refine lv_aload_n hx hb dX2_turn_10 rfl (lv_at hl 0 rfl) ?_
  refine va_get (D := (dC, dI)) (ci := 1) (v := .int (x_faultOfTurn kd nd p0 p1)) (C := RX2) (T := TX2) (N := 14) hx hb hts h_inX2 hown hK hP 0 rfl rfl 13 (by decide) k_0 (fun _ h9 => h9) rfl dX2_turn_11 ?_
  refine lv_if_eq (tgt := 19) hx hb dX2_turn_14 (by decide) (fun c_1 => ?_) (fun c_1 => ?_)
  · skip
    refine lv_aload_n hx hb dX2_turn_19 rfl (lv_at hl 0 rfl) ?_
    refine lv_iload_n hx hb dX2_turn_20 rfl (lv_at hl 1 rfl) ?_
    refine lv_aload_n hx hb dX2_turn_21 rfl (lv_at hl 0 rfl) ?_
    refine va_get (D := (dC, dI)) (ci := 1) (v := .ref (a 1)) (C := RX2) (T := TX2) (N := 14) hx hb hts h_inX2 hown hK hP 0 rfl rfl 0 (by decide) k_1 (fun _ h9 => h9) rfl dX2_turn_22 ?_
    refine lv_iload_n hx hb dX2_turn_25 rfl (lv_at hl 1 rfl) ?_
    refine va_iald hx hb hK hP 1 0 rfl rfl (in_ft hn.2 (by assumption)) dX2_turn_26 ?_
    refine lv_aload_n hx hb dX2_turn_27 rfl (lv_at hl 0 rfl) ?_
    refine va_get (D := (dC, dI)) (ci := 1) (v := .ref (a 4)) (C := RX2) (T := TX2) (N := 14) hx hb hts h_inX2 hown hK hP 0 rfl rfl 3 (by decide) k_2 (fun _ h9 => h9) rfl dX2_turn_28 ?_
    refine lv_iload_n hx hb dX2_turn_31 rfl (lv_at hl 1 rfl) ?_
    refine va_lald hx hb hK hP 4 1 rfl rfl (in_ft hn.2 (by assumption)) dX2_turn_32 ?_
    refine lv_iload_n hx hb dX2_turn_33 rfl (lv_at hl 2 rfl) ?_
    refine cs_l (W.runS (As := [.int (kd p0.toNatClampNeg), .long (vl p0.toNatClampNeg), .int p1]) (rest := [.int p0, .ref (a 0)]) ⟨hx, hb, hml, hown, hts⟩ (c_X0_turned l (kd p0.toNatClampNeg) (vl p0.toNatClampNeg) p1 ) (va_cwS 3 hts gX2_turn_X0_turned rfl rfl rfl (by decide +kernel) ⟨Nat.le_of_ble_eq_true rfl, Nat.le_of_ble_eq_true rfl⟩) fb_s rfl rfl hl.1 rfl (lv_room (Nat.le_of_ble_eq_true rfl)) dX2_turn_34 ⟨Nat.zero_le _, Nat.zero_le _⟩) ?_
    have hFc := va_free (wc := (wX cI cJ cZ a kd lo hi vl nd so fr tg gn nr mo ma (x_faultOfTurn kd nd p0 p1) sv sd se sh)) hD hS hA [0, 1, 2, 3, 4, 5, 6, 7, 8, 9, 10, 11] rfl
    refine va_calli (va_runV (As := [.int p0, .long (n_turned (kd p0.toNatClampNeg) (vl p0.toNatClampNeg) p1)]) (rest := []) ⟨hx, hb, hml, hown, hts⟩ (c_X2_movesWhenGiven l dC dI cI cJ cZ a kd lo hi vl nd so fr tg gn nr mo ma (x_faultOfTurn kd nd p0 p1) sv sd se sh p0 (n_turned (kd p0.toNatClampNeg) (vl p0.toNatClampNeg) p1) hE hn hnr htg (in_ft hn.2 (by assumption)) H.size) (cwV 2 hts gX2_turn_X2_movesWhenGiven rfl rfl rfl (by decide +kernel) ⟨Nat.le_of_ble_eq_true rfl, Nat.le_of_ble_eq_true rfl⟩) (fb_m hK hP hD (va_recv hK hP (ci := 1) (q0 := 0) rfl rfl)) rfl rfl hl.1 rfl (lv_room (Nat.le_of_ble_eq_true rfl)) dX2_turn_37 ⟨Nat.zero_le _, Nat.zero_le _⟩) hS (fun q _ h => hFc q h) hFc (fun r_2 u t H1 locs ht hvm hw_2 hB hz1 hk1 hS => ?_)
    obtain ⟨kd_2, lo_2, hi_2, vl_2, nd_2, so_2, fr_2, tg_2, gn_2, nr_2, mo_2, ma_2, fa_2, sv_2, sd_2, se_2, sh_2⟩ := u
    rw [x_mwg_eq] at hw_2
    have hw_2 := hw_2.symm
    simp only [Prod.mk.injEq] at hw_2
    obtain ⟨rfl, rfl, rfl, rfl, rfl, rfl, rfl, rfl, rfl, rfl, rfl, rfl, rfl, rfl, rfl, rfl, rfl, rfl⟩ := hw_2
    obtain ⟨hP1, hK1, hD1⟩ := hB
    rw [ht] at hP1
    obtain ⟨hP, hD⟩ := va_join (wr := []) (w1 := (wX cI cJ cZ a kd lo hi ((x_gets kd lo hi nd so fr tg nr.toNatClampNeg 24 (vl, (clr gn nr.toNatClampNeg), (0 : Int32), ma, sv, sd, se, sh) p0 (n_turned (kd p0.toNatClampNeg) (vl p0.toNatClampNeg) p1)).1) nd so fr tg ((x_gets kd lo hi nd so fr tg nr.toNatClampNeg 24 (vl, (clr gn nr.toNatClampNeg), (0 : Int32), ma, sv, sd, se, sh) p0 (n_turned (kd p0.toNatClampNeg) (vl p0.toNatClampNeg) p1)).2.1) nr ((x_gets kd lo hi nd so fr tg nr.toNatClampNeg 24 (vl, (clr gn nr.toNatClampNeg), (0 : Int32), ma, sv, sd, se, sh) p0 (n_turned (kd p0.toNatClampNeg) (vl p0.toNatClampNeg) p1)).2.2.1) ((x_gets kd lo hi nd so fr tg nr.toNatClampNeg 24 (vl, (clr gn nr.toNatClampNeg), (0 : Int32), ma, sv, sd, se, sh) p0 (n_turned (kd p0.toNatClampNeg) (vl p0.toNatClampNeg) p1)).2.2.2.1) (x_faultOfTurn kd nd p0 p1) ((x_gets kd lo hi nd so fr tg nr.toNatClampNeg 24 (vl, (clr gn nr.toNatClampNeg), (0 : Int32), ma, sv, sd, se, sh) p0 (n_turned (kd p0.toNatClampNeg) (vl p0.toNatClampNeg) p1)).2.2.2.2.1) ((x_gets kd lo hi nd so fr tg nr.toNatClampNeg 24 (vl, (clr gn nr.toNatClampNeg), (0 : Int32), ma, sv, sd, se, sh) p0 (n_turned (kd p0.toNatClampNeg) (vl p0.toNatClampNeg) p1)).2.2.2.2.2.1) ((x_gets kd lo hi nd so fr tg nr.toNatClampNeg 24 (vl, (clr gn nr.toNatClampNeg), (0 : Int32), ma, sv, sd, se, sh) p0 (n_turned (kd p0.toNatClampNeg) (vl p0.toNatClampNeg) p1)).2.2.2.2.2.2.1) ((x_gets kd lo hi nd so fr tg nr.toNatClampNeg 24 (vl, (clr gn nr.toNatClampNeg), (0 : Int32), ma, sv, sd, se, sh) p0 (n_turned (kd p0.toNatClampNeg) (vl p0.toNatClampNeg) p1)).2.2.2.2.2.2.2))) hP hD [0, 1, 2, 3, 4, 5, 6, 7, 8, 9, 10, 11] [] rfl rfl (by decide) (by decide) hk1 hFc hP1 hD1
    generalize H1 = H at hP hS ⊢
    have hP : va_P (dC, dI) vwCl (wX cI cJ cZ a kd lo hi ((x_gets kd lo hi nd so fr tg nr.toNatClampNeg 24 (vl, (clr gn nr.toNatClampNeg), (0 : Int32), ma, sv, sd, se, sh) p0 (n_turned (kd p0.toNatClampNeg) (vl p0.toNatClampNeg) p1)).1) nd so fr tg ((x_gets kd lo hi nd so fr tg nr.toNatClampNeg 24 (vl, (clr gn nr.toNatClampNeg), (0 : Int32), ma, sv, sd, se, sh) p0 (n_turned (kd p0.toNatClampNeg) (vl p0.toNatClampNeg) p1)).2.1) nr ((x_gets kd lo hi nd so fr tg nr.toNatClampNeg 24 (vl, (clr gn nr.toNatClampNeg), (0 : Int32), ma, sv, sd, se, sh) p0 (n_turned (kd p0.toNatClampNeg) (vl p0.toNatClampNeg) p1)).2.2.1) ((x_gets kd lo hi nd so fr tg nr.toNatClampNeg 24 (vl, (clr gn nr.toNatClampNeg), (0 : Int32), ma, sv, sd, se, sh) p0 (n_turned (kd p0.toNatClampNeg) (vl p0.toNatClampNeg) p1)).2.2.2.1) (x_faultOfTurn kd nd p0 p1) ((x_gets kd lo hi nd so fr tg nr.toNatClampNeg 24 (vl, (clr gn nr.toNatClampNeg), (0 : Int32), ma, sv, sd, se, sh) p0 (n_turned (kd p0.toNatClampNeg) (vl p0.toNatClampNeg) p1)).2.2.2.2.1) ((x_gets kd lo hi nd so fr tg nr.toNatClampNeg 24 (vl, (clr gn nr.toNatClampNeg), (0 : Int32), ma, sv, sd, se, sh) p0 (n_turned (kd p0.toNatClampNeg) (vl p0.toNatClampNeg) p1)).2.2.2.2.2.1) ((x_gets kd lo hi nd so fr tg nr.toNatClampNeg 24 (vl, (clr gn nr.toNatClampNeg), (0 : Int32), ma, sv, sd, se, sh) p0 (n_turned (kd p0.toNatClampNeg) (vl p0.toNatClampNeg) p1)).2.2.2.2.2.2.1) ((x_gets kd lo hi nd so fr tg nr.toNatClampNeg 24 (vl, (clr gn nr.toNatClampNeg), (0 : Int32), ma, sv, sd, se, sh) p0 (n_turned (kd p0.toNatClampNeg) (vl p0.toNatClampNeg) p1)).2.2.2.2.2.2.2)) H := hP
    have hD : va_D A (wX cI cJ cZ a kd lo hi ((x_gets kd lo hi nd so fr tg nr.toNatClampNeg 24 (vl, (clr gn nr.toNatClampNeg), (0 : Int32), ma, sv, sd, se, sh) p0 (n_turned (kd p0.toNatClampNeg) (vl p0.toNatClampNeg) p1)).1) nd so fr tg ((x_gets kd lo hi nd so fr tg nr.toNatClampNeg 24 (vl, (clr gn nr.toNatClampNeg), (0 : Int32), ma, sv, sd, se, sh) p0 (n_turned (kd p0.toNatClampNeg) (vl p0.toNatClampNeg) p1)).2.1) nr ((x_gets kd lo hi nd so fr tg nr.toNatClampNeg 24 (vl, (clr gn nr.toNatClampNeg), (0 : Int32), ma, sv, sd, se, sh) p0 (n_turned (kd p0.toNatClampNeg) (vl p0.toNatClampNeg) p1)).2.2.1) ((x_gets kd lo hi nd so fr tg nr.toNatClampNeg 24 (vl, (clr gn nr.toNatClampNeg), (0 : Int32), ma, sv, sd, se, sh) p0 (n_turned (kd p0.toNatClampNeg) (vl p0.toNatClampNeg) p1)).2.2.2.1) (x_faultOfTurn kd nd p0 p1) ((x_gets kd lo hi nd so fr tg nr.toNatClampNeg 24 (vl, (clr gn nr.toNatClampNeg), (0 : Int32), ma, sv, sd, se, sh) p0 (n_turned (kd p0.toNatClampNeg) (vl p0.toNatClampNeg) p1)).2.2.2.2.1) ((x_gets kd lo hi nd so fr tg nr.toNatClampNeg 24 (vl, (clr gn nr.toNatClampNeg), (0 : Int32), ma, sv, sd, se, sh) p0 (n_turned (kd p0.toNatClampNeg) (vl p0.toNatClampNeg) p1)).2.2.2.2.2.1) ((x_gets kd lo hi nd so fr tg nr.toNatClampNeg 24 (vl, (clr gn nr.toNatClampNeg), (0 : Int32), ma, sv, sd, se, sh) p0 (n_turned (kd p0.toNatClampNeg) (vl p0.toNatClampNeg) p1)).2.2.2.2.2.2.1) ((x_gets kd lo hi nd so fr tg nr.toNatClampNeg 24 (vl, (clr gn nr.toNatClampNeg), (0 : Int32), ma, sv, sd, se, sh) p0 (n_turned (kd p0.toNatClampNeg) (vl p0.toNatClampNeg) p1)).2.2.2.2.2.2.2)) := hD
    exact W.iret (v := (x_gets kd lo hi nd so fr tg nr.toNatClampNeg 24 (vl, (clr gn nr.toNatClampNeg), (0 : Int32), ma, sv, sd, se, sh) p0 (n_turned (kd p0.toNatClampNeg) (vl p0.toNatClampNeg) p1)).2.2.1) hx hb hr (fun t ht hW => ⟨⟨(x_gets kd lo hi nd so fr tg nr.toNatClampNeg 24 (vl, (clr gn nr.toNatClampNeg), (0 : Int32), ma, sv, sd, se, sh) p0 (n_turned (kd p0.toNatClampNeg) (vl p0.toNatClampNeg) p1)).2.2.1, (kd, lo, hi, (x_gets kd lo hi nd so fr tg nr.toNatClampNeg 24 (vl, (clr gn nr.toNatClampNeg), (0 : Int32), ma, sv, sd, se, sh) p0 (n_turned (kd p0.toNatClampNeg) (vl p0.toNatClampNeg) p1)).1, nd, so, fr, tg, (x_gets kd lo hi nd so fr tg nr.toNatClampNeg 24 (vl, (clr gn nr.toNatClampNeg), (0 : Int32), ma, sv, sd, se, sh) p0 (n_turned (kd p0.toNatClampNeg) (vl p0.toNatClampNeg) p1)).2.1, nr, (x_gets kd lo hi nd so fr tg nr.toNatClampNeg 24 (vl, (clr gn nr.toNatClampNeg), (0 : Int32), ma, sv, sd, se, sh) p0 (n_turned (kd p0.toNatClampNeg) (vl p0.toNatClampNeg) p1)).2.2.1, (x_gets kd lo hi nd so fr tg nr.toNatClampNeg 24 (vl, (clr gn nr.toNatClampNeg), (0 : Int32), ma, sv, sd, se, sh) p0 (n_turned (kd p0.toNatClampNeg) (vl p0.toNatClampNeg) p1)).2.2.2.1, (x_faultOfTurn kd nd p0 p1), (x_gets kd lo hi nd so fr tg nr.toNatClampNeg 24 (vl, (clr gn nr.toNatClampNeg), (0 : Int32), ma, sv, sd, se, sh) p0 (n_turned (kd p0.toNatClampNeg) (vl p0.toNatClampNeg) p1)).2.2.2.2.1, (x_gets kd lo hi nd so fr tg nr.toNatClampNeg 24 (vl, (clr gn nr.toNatClampNeg), (0 : Int32), ma, sv, sd, se, sh) p0 (n_turned (kd p0.toNatClampNeg) (vl p0.toNatClampNeg) p1)).2.2.2.2.2.1, (x_gets kd lo hi nd so fr tg nr.toNatClampNeg 24 (vl, (clr gn nr.toNatClampNeg), (0 : Int32), ma, sv, sd, se, sh) p0 (n_turned (kd p0.toNatClampNeg) (vl p0.toNatClampNeg) p1)).2.2.2.2.2.2.1, (x_gets kd lo hi nd so fr tg nr.toNatClampNeg 24 (vl, (clr gn nr.toNatClampNeg), (0 : Int32), ma, sv, sd, se, sh) p0 (n_turned (kd p0.toNatClampNeg) (vl p0.toNatClampNeg) p1)).2.2.2.2.2.2.2), rfl, (by unfold x_turn; rw [if_pos c_1]), by rw [ht]; exact hP, va_K.moved hW.alike hK, hD⟩, hS.F ht⟩) hS.2.2 dX2_turn_40
  · skip
    refine lv_iconst (v := (-1)) hx hb dX2_turn_17 (by decide) ?_
    exact W.iret (v := (-1 : Int32)) hx hb hr (fun t ht hW => ⟨⟨(-1 : Int32), (kd, lo, hi, vl, nd, so, fr, tg, gn, nr, mo, ma, (x_faultOfTurn kd nd p0 p1), sv, sd, se, sh), rfl, (by unfold x_turn; rw [if_neg c_1]), by rw [ht]; exact hP, va_K.moved hW.alike hK, hD⟩, hS.F ht⟩) hS.2.2 dX2_turn_18
def x_take (kd : Nat → Int32) (lo : Nat → Int64) (hi : Nat → Int64) (vl : Nat → Int64) (nd : Int32) (so : Nat → Int32) (fr : Nat → Int32) (tg : Nat → Int32) (gn : Nat → Int32) (nr : Int32) (mo : Int32) (ma : Int32) (fa : Int32) (sv : Nat → Int64) (sd : Nat → Int32) (se : Int32) (sh : Int32) (p0 : Int32) (p1 : Int32) (p2 : Int32) : Int32 × XS :=
  if (x_faultOfTake kd nd p0 p1 p2) = 0 then ((x_gets kd lo hi nd so fr tg nr.toNatClampNeg 24 (vl, (clr gn nr.toNatClampNeg), (0 : Int32), ma, sv, sd, se, sh) p0 (x_gift kd vl p2 p1 p0)).2.2.1, kd, lo, hi, (x_gets kd lo hi nd so fr tg nr.toNatClampNeg 24 (vl, (clr gn nr.toNatClampNeg), (0 : Int32), ma, sv, sd, se, sh) p0 (x_gift kd vl p2 p1 p0)).1, nd, so, fr, tg, (x_gets kd lo hi nd so fr tg nr.toNatClampNeg 24 (vl, (clr gn nr.toNatClampNeg), (0 : Int32), ma, sv, sd, se, sh) p0 (x_gift kd vl p2 p1 p0)).2.1, nr, (x_gets kd lo hi nd so fr tg nr.toNatClampNeg 24 (vl, (clr gn nr.toNatClampNeg), (0 : Int32), ma, sv, sd, se, sh) p0 (x_gift kd vl p2 p1 p0)).2.2.1, (x_gets kd lo hi nd so fr tg nr.toNatClampNeg 24 (vl, (clr gn nr.toNatClampNeg), (0 : Int32), ma, sv, sd, se, sh) p0 (x_gift kd vl p2 p1 p0)).2.2.2.1, (x_faultOfTake kd nd p0 p1 p2), (x_gets kd lo hi nd so fr tg nr.toNatClampNeg 24 (vl, (clr gn nr.toNatClampNeg), (0 : Int32), ma, sv, sd, se, sh) p0 (x_gift kd vl p2 p1 p0)).2.2.2.2.1, (x_gets kd lo hi nd so fr tg nr.toNatClampNeg 24 (vl, (clr gn nr.toNatClampNeg), (0 : Int32), ma, sv, sd, se, sh) p0 (x_gift kd vl p2 p1 p0)).2.2.2.2.2.1, (x_gets kd lo hi nd so fr tg nr.toNatClampNeg 24 (vl, (clr gn nr.toNatClampNeg), (0 : Int32), ma, sv, sd, se, sh) p0 (x_gift kd vl p2 p1 p0)).2.2.2.2.2.2.1, (x_gets kd lo hi nd so fr tg nr.toNatClampNeg 24 (vl, (clr gn nr.toNatClampNeg), (0 : Int32), ma, sv, sd, se, sh) p0 (x_gift kd vl p2 p1 p0)).2.2.2.2.2.2.2)
  else ((-1 : Int32), kd, lo, hi, vl, nd, so, fr, tg, gn, nr, mo, ma, (x_faultOfTake kd nd p0 p1 p2), sv, sd, se, sh)
set_option maxHeartbeats 4000000 in
set_option maxRecDepth 100000 in
theorem c_X2_take (l : Launch) (dC : Nat → ClassId) (dI : Nat → Nat → Nat) (cI cJ cZ : ClassId) (a : Nat → Nat) (kd : Nat → Int32) (lo : Nat → Int64) (hi : Nat → Int64) (vl : Nat → Int64) (nd : Int32) (so : Nat → Int32) (fr : Nat → Int32) (tg : Nat → Int32) (gn : Nat → Int32) (nr : Int32) (mo : Int32) (ma : Int32) (fa : Int32) (sv : Nat → Int64) (sd : Nat → Int32) (se : Int32) (sh : Int32) (p0 : Int32) (p1 : Int32) (p2 : Int32) (hE : okE se sh) (hn : 0 ≤ nd ∧ nd ≤ 16) (hnr : 0 ≤ nr ∧ nr ≤ 24) (htg : ∀ j, vp_in (tg j) 16) (sz : Nat) : Met l yX2_take wsX2_take ({ frames := 31, cells := 0, slots := 0, locals := 819 }) (va_Pc [.ref (a 0), .int p0, .int p1, .int p2] (fun U => U.heap.size = sz ∧ va_P (dC, dI) vwCl (wX cI cJ cZ a kd lo hi vl nd so fr tg gn nr mo ma fa sv sd se sh) U.heap ∧ va_K (dC, dI) vwCl (tA cI cJ cZ) U ∧ va_D (fun _ => True) (wX cI cJ cZ a kd lo hi vl nd so fr tg gn nr mo ma fa sv sd se sh))) (va_Qi (fun (r : Int32) (u : XS) => (r, u) = x_take kd lo hi vl nd so fr tg gn nr mo ma fa sv sd se sh p0 p1 p2) (at_X dC dI cI cJ cZ (va_A (wX cI cJ cZ a kd lo hi vl nd so fr tg gn nr mo ma fa sv sd se sh) sz) a) (va_A (wX cI cJ cZ a kd lo hi vl nd so fr tg gn nr mo ma fa sv sd se sh) sz)) 0 0 (va_A (wX cI cJ cZ a kd lo hi vl nd so fr tg gn nr mo ma fa sv sd se sh) sz) := by
  refine Met.ofW (cc := cX2_take) (maxL := 4) (ret := (some .int)) (by decide) rfl ?_
  intro p e s m args below meth c s₁ B hml hv
  obtain ⟨rfl, hsz, hP, hK, hD0⟩ := hv
  subst hsz
  have hD := hD0.self (sz := s.heap.size)
  generalize hAe : va_A (wX cI cJ cZ a kd lo hi vl nd so fr tg gn nr mo ma fa sv sd se sh) s.heap.size = A at hD ⊢
  have hA : ∀ q : Nat, s.heap.size ≤ q → A q := fun q h => by rw [← hAe]; exact Or.inr h
  have hS : va_S A s.heap s.heap [] := va_S.rf
  have hP : va_P (dC, dI) vwCl (wX cI cJ cZ a kd lo hi vl nd so fr tg gn nr mo ma fa sv sd se sh) s.heap := hP
  have hx := B.exec
  have hb := B.bytes
  have hr := B.returns
  have hts := atoms_spec (ws := wsX2_take) B.pre
  have hown : s.vm.findClass RX2 = some m.cls := findClass_of_methodNamed B.named
  have hlocks := B.notSynchronized
  have h_inX2 : ∀ w ∈ wsX20, w ∈ wsX2_take := fun _ h => List.mem_cons_of_mem _ (List.mem_append_left _ (List.mem_append_right _ h))
  have k_0 := hts (.fieldLink RX2 47 "DetentCabinet" "fault" "I") (by decide +kernel)
  have hl := lv_entry ([.ref (a 0), .int p0, .int p1, .int p2]) (n := 4) (Nat.le_of_ble_eq_true rfl)
  rw [lg_entry_eq]
  generalize (lg_sl ([.ref (a 0), .int p0, .int p1, .int p2]) ++ List.replicate (4 - (lg_sl ([.ref (a 0), .int p0, .int p1, .int p2])).length) Slot.unset).toArray = ls at hl ⊢
  have hl : lv_has ls 4 [(0, .ref (a 0)), (1, .int p0), (2, .int p1), (3, .int p2)] := hl
  refine lv_aload_n hx hb dX2_take_0 rfl (lv_at hl 0 rfl) ?_
  refine lv_aload_n hx hb dX2_take_1 rfl (lv_at hl 0 rfl) ?_
  refine lv_iload_n hx hb dX2_take_2 rfl (lv_at hl 1 rfl) ?_
  refine lv_iload_n hx hb dX2_take_3 rfl (lv_at hl 2 rfl) ?_
  refine lv_iload_n hx hb dX2_take_4 rfl (lv_at hl 3 rfl) ?_
  refine cs_i (W.runV (As := [.int p0, .int p1, .int p2]) (rest := [.ref (a 0)]) ⟨hx, hb, hml, hown, hts⟩ (c_X2_faultOfTake l dC dI cI cJ cZ a kd lo hi vl nd so fr tg gn nr mo ma fa sv sd se sh p0 p1 p2 hn.2) (cwV 3 hts gX2_take_X2_faultOfTake rfl rfl rfl (by decide +kernel) ⟨Nat.le_of_ble_eq_true rfl, Nat.le_of_ble_eq_true rfl⟩) (fb_v hK hP (va_recv hK hP (ci := 1) (q0 := 0) rfl rfl)) rfl rfl hl.1 rfl (lv_room (Nat.le_of_ble_eq_true rfl)) dX2_take_5 ⟨Nat.zero_le _, Nat.zero_le _⟩) ?_
  refine va_put (D := (dC, dI)) (ci := 1) (v := .int (x_faultOfTake kd nd p0 p1 p2)) (ty := .int) (C := RX2) (T := TX2) (N := 14) hx hb hts h_inX2 tyX2 tyX2_ok nmX2 hown hK hP hD hS 0 rfl rfl 13 (by decide) k_0 (fun _ h9 => h9) rfl (by decide +kernel) rfl rfl (Nat.le_of_ble_eq_true rfl) dX2_take_8 (fun H locs hP hD hS => ?_)
  have hP : va_P (dC, dI) vwCl (wX cI cJ cZ a kd lo hi vl nd so fr tg gn nr mo ma (x_faultOfTake kd nd p0 p1 p2) sv sd se sh) H := hP
  have hD : va_D A (wX cI cJ cZ a kd lo hi vl nd so fr tg gn nr mo ma (x_faultOfTake kd nd p0 p1 p2) sv sd se sh) := hD
  refine lv_aload_n hx hb dX2_take_11 rfl (lv_at hl 0 rfl) ?_
  refine va_get (D := (dC, dI)) (ci := 1) (v := .int (x_faultOfTake kd nd p0 p1 p2)) (C := RX2) (T := TX2) (N := 14) hx hb hts h_inX2 hown hK hP 0 rfl rfl 13 (by decide) k_0 (fun _ h9 => h9) rfl dX2_take_12 ?_
  refine lv_if_eq (tgt := 20) hx hb dX2_take_15 (by decide) (fun c_1 => ?_) (fun c_1 => ?_)
  · skip
    refine lv_aload_n hx hb dX2_take_20 rfl (lv_at hl 0 rfl) ?_
    refine lv_iload_n hx hb dX2_take_21 rfl (lv_at hl 1 rfl) ?_
    refine lv_aload_n hx hb dX2_take_22 rfl (lv_at hl 0 rfl) ?_
    refine lv_iload_n hx hb dX2_take_23 rfl (lv_at hl 3 rfl) ?_
    refine lv_iload_n hx hb dX2_take_24 rfl (lv_at hl 2 rfl) ?_
    refine lv_iload_n hx hb dX2_take_25 rfl (lv_at hl 1 rfl) ?_
    refine cs_l (W.runV (As := [.int p2, .int p1, .int p0]) (rest := [.int p0, .ref (a 0)]) ⟨hx, hb, hml, hown, hts⟩ (c_X2_gift l dC dI cI cJ cZ a kd lo hi vl nd so fr tg gn nr mo ma (x_faultOfTake kd nd p0 p1 p2) sv sd se sh p2 p1 p0 (in_fk hn.2 (by assumption)).2 (in_fk hn.2 (by assumption)).1) (cwV 3 hts gX2_take_X2_gift rfl rfl rfl (by decide +kernel) ⟨Nat.le_of_ble_eq_true rfl, Nat.le_of_ble_eq_true rfl⟩) (fb_v hK hP (va_recv hK hP (ci := 1) (q0 := 0) rfl rfl)) rfl rfl hl.1 rfl (lv_room (Nat.le_of_ble_eq_true rfl)) dX2_take_26 ⟨Nat.zero_le _, Nat.zero_le _⟩) ?_
    have hFc := va_free (wc := (wX cI cJ cZ a kd lo hi vl nd so fr tg gn nr mo ma (x_faultOfTake kd nd p0 p1 p2) sv sd se sh)) hD hS hA [0, 1, 2, 3, 4, 5, 6, 7, 8, 9, 10, 11] rfl
    refine va_calli (va_runV (As := [.int p0, .long (x_gift kd vl p2 p1 p0)]) (rest := []) ⟨hx, hb, hml, hown, hts⟩ (c_X2_movesWhenGiven l dC dI cI cJ cZ a kd lo hi vl nd so fr tg gn nr mo ma (x_faultOfTake kd nd p0 p1 p2) sv sd se sh p0 (x_gift kd vl p2 p1 p0) hE hn hnr htg (in_fk hn.2 (by assumption)).1 H.size) (cwV 2 hts gX2_take_X2_movesWhenGiven rfl rfl rfl (by decide +kernel) ⟨Nat.le_of_ble_eq_true rfl, Nat.le_of_ble_eq_true rfl⟩) (fb_m hK hP hD (va_recv hK hP (ci := 1) (q0 := 0) rfl rfl)) rfl rfl hl.1 rfl (lv_room (Nat.le_of_ble_eq_true rfl)) dX2_take_29 ⟨Nat.zero_le _, Nat.zero_le _⟩) hS (fun q _ h => hFc q h) hFc (fun r_2 u t H1 locs ht hvm hw_2 hB hz1 hk1 hS => ?_)
    obtain ⟨kd_2, lo_2, hi_2, vl_2, nd_2, so_2, fr_2, tg_2, gn_2, nr_2, mo_2, ma_2, fa_2, sv_2, sd_2, se_2, sh_2⟩ := u
    rw [x_mwg_eq] at hw_2
    have hw_2 := hw_2.symm
    simp only [Prod.mk.injEq] at hw_2
    obtain ⟨rfl, rfl, rfl, rfl, rfl, rfl, rfl, rfl, rfl, rfl, rfl, rfl, rfl, rfl, rfl, rfl, rfl, rfl⟩ := hw_2
    obtain ⟨hP1, hK1, hD1⟩ := hB
    rw [ht] at hP1
    obtain ⟨hP, hD⟩ := va_join (wr := []) (w1 := (wX cI cJ cZ a kd lo hi ((x_gets kd lo hi nd so fr tg nr.toNatClampNeg 24 (vl, (clr gn nr.toNatClampNeg), (0 : Int32), ma, sv, sd, se, sh) p0 (x_gift kd vl p2 p1 p0)).1) nd so fr tg ((x_gets kd lo hi nd so fr tg nr.toNatClampNeg 24 (vl, (clr gn nr.toNatClampNeg), (0 : Int32), ma, sv, sd, se, sh) p0 (x_gift kd vl p2 p1 p0)).2.1) nr ((x_gets kd lo hi nd so fr tg nr.toNatClampNeg 24 (vl, (clr gn nr.toNatClampNeg), (0 : Int32), ma, sv, sd, se, sh) p0 (x_gift kd vl p2 p1 p0)).2.2.1) ((x_gets kd lo hi nd so fr tg nr.toNatClampNeg 24 (vl, (clr gn nr.toNatClampNeg), (0 : Int32), ma, sv, sd, se, sh) p0 (x_gift kd vl p2 p1 p0)).2.2.2.1) (x_faultOfTake kd nd p0 p1 p2) ((x_gets kd lo hi nd so fr tg nr.toNatClampNeg 24 (vl, (clr gn nr.toNatClampNeg), (0 : Int32), ma, sv, sd, se, sh) p0 (x_gift kd vl p2 p1 p0)).2.2.2.2.1) ((x_gets kd lo hi nd so fr tg nr.toNatClampNeg 24 (vl, (clr gn nr.toNatClampNeg), (0 : Int32), ma, sv, sd, se, sh) p0 (x_gift kd vl p2 p1 p0)).2.2.2.2.2.1) ((x_gets kd lo hi nd so fr tg nr.toNatClampNeg 24 (vl, (clr gn nr.toNatClampNeg), (0 : Int32), ma, sv, sd, se, sh) p0 (x_gift kd vl p2 p1 p0)).2.2.2.2.2.2.1) ((x_gets kd lo hi nd so fr tg nr.toNatClampNeg 24 (vl, (clr gn nr.toNatClampNeg), (0 : Int32), ma, sv, sd, se, sh) p0 (x_gift kd vl p2 p1 p0)).2.2.2.2.2.2.2))) hP hD [0, 1, 2, 3, 4, 5, 6, 7, 8, 9, 10, 11] [] rfl rfl (by decide) (by decide) hk1 hFc hP1 hD1
    generalize H1 = H at hP hS ⊢
    have hP : va_P (dC, dI) vwCl (wX cI cJ cZ a kd lo hi ((x_gets kd lo hi nd so fr tg nr.toNatClampNeg 24 (vl, (clr gn nr.toNatClampNeg), (0 : Int32), ma, sv, sd, se, sh) p0 (x_gift kd vl p2 p1 p0)).1) nd so fr tg ((x_gets kd lo hi nd so fr tg nr.toNatClampNeg 24 (vl, (clr gn nr.toNatClampNeg), (0 : Int32), ma, sv, sd, se, sh) p0 (x_gift kd vl p2 p1 p0)).2.1) nr ((x_gets kd lo hi nd so fr tg nr.toNatClampNeg 24 (vl, (clr gn nr.toNatClampNeg), (0 : Int32), ma, sv, sd, se, sh) p0 (x_gift kd vl p2 p1 p0)).2.2.1) ((x_gets kd lo hi nd so fr tg nr.toNatClampNeg 24 (vl, (clr gn nr.toNatClampNeg), (0 : Int32), ma, sv, sd, se, sh) p0 (x_gift kd vl p2 p1 p0)).2.2.2.1) (x_faultOfTake kd nd p0 p1 p2) ((x_gets kd lo hi nd so fr tg nr.toNatClampNeg 24 (vl, (clr gn nr.toNatClampNeg), (0 : Int32), ma, sv, sd, se, sh) p0 (x_gift kd vl p2 p1 p0)).2.2.2.2.1) ((x_gets kd lo hi nd so fr tg nr.toNatClampNeg 24 (vl, (clr gn nr.toNatClampNeg), (0 : Int32), ma, sv, sd, se, sh) p0 (x_gift kd vl p2 p1 p0)).2.2.2.2.2.1) ((x_gets kd lo hi nd so fr tg nr.toNatClampNeg 24 (vl, (clr gn nr.toNatClampNeg), (0 : Int32), ma, sv, sd, se, sh) p0 (x_gift kd vl p2 p1 p0)).2.2.2.2.2.2.1) ((x_gets kd lo hi nd so fr tg nr.toNatClampNeg 24 (vl, (clr gn nr.toNatClampNeg), (0 : Int32), ma, sv, sd, se, sh) p0 (x_gift kd vl p2 p1 p0)).2.2.2.2.2.2.2)) H := hP
    have hD : va_D A (wX cI cJ cZ a kd lo hi ((x_gets kd lo hi nd so fr tg nr.toNatClampNeg 24 (vl, (clr gn nr.toNatClampNeg), (0 : Int32), ma, sv, sd, se, sh) p0 (x_gift kd vl p2 p1 p0)).1) nd so fr tg ((x_gets kd lo hi nd so fr tg nr.toNatClampNeg 24 (vl, (clr gn nr.toNatClampNeg), (0 : Int32), ma, sv, sd, se, sh) p0 (x_gift kd vl p2 p1 p0)).2.1) nr ((x_gets kd lo hi nd so fr tg nr.toNatClampNeg 24 (vl, (clr gn nr.toNatClampNeg), (0 : Int32), ma, sv, sd, se, sh) p0 (x_gift kd vl p2 p1 p0)).2.2.1) ((x_gets kd lo hi nd so fr tg nr.toNatClampNeg 24 (vl, (clr gn nr.toNatClampNeg), (0 : Int32), ma, sv, sd, se, sh) p0 (x_gift kd vl p2 p1 p0)).2.2.2.1) (x_faultOfTake kd nd p0 p1 p2) ((x_gets kd lo hi nd so fr tg nr.toNatClampNeg 24 (vl, (clr gn nr.toNatClampNeg), (0 : Int32), ma, sv, sd, se, sh) p0 (x_gift kd vl p2 p1 p0)).2.2.2.2.1) ((x_gets kd lo hi nd so fr tg nr.toNatClampNeg 24 (vl, (clr gn nr.toNatClampNeg), (0 : Int32), ma, sv, sd, se, sh) p0 (x_gift kd vl p2 p1 p0)).2.2.2.2.2.1) ((x_gets kd lo hi nd so fr tg nr.toNatClampNeg 24 (vl, (clr gn nr.toNatClampNeg), (0 : Int32), ma, sv, sd, se, sh) p0 (x_gift kd vl p2 p1 p0)).2.2.2.2.2.2.1) ((x_gets kd lo hi nd so fr tg nr.toNatClampNeg 24 (vl, (clr gn nr.toNatClampNeg), (0 : Int32), ma, sv, sd, se, sh) p0 (x_gift kd vl p2 p1 p0)).2.2.2.2.2.2.2)) := hD
    exact W.iret (v := (x_gets kd lo hi nd so fr tg nr.toNatClampNeg 24 (vl, (clr gn nr.toNatClampNeg), (0 : Int32), ma, sv, sd, se, sh) p0 (x_gift kd vl p2 p1 p0)).2.2.1) hx hb hr (fun t ht hW => ⟨⟨(x_gets kd lo hi nd so fr tg nr.toNatClampNeg 24 (vl, (clr gn nr.toNatClampNeg), (0 : Int32), ma, sv, sd, se, sh) p0 (x_gift kd vl p2 p1 p0)).2.2.1, (kd, lo, hi, (x_gets kd lo hi nd so fr tg nr.toNatClampNeg 24 (vl, (clr gn nr.toNatClampNeg), (0 : Int32), ma, sv, sd, se, sh) p0 (x_gift kd vl p2 p1 p0)).1, nd, so, fr, tg, (x_gets kd lo hi nd so fr tg nr.toNatClampNeg 24 (vl, (clr gn nr.toNatClampNeg), (0 : Int32), ma, sv, sd, se, sh) p0 (x_gift kd vl p2 p1 p0)).2.1, nr, (x_gets kd lo hi nd so fr tg nr.toNatClampNeg 24 (vl, (clr gn nr.toNatClampNeg), (0 : Int32), ma, sv, sd, se, sh) p0 (x_gift kd vl p2 p1 p0)).2.2.1, (x_gets kd lo hi nd so fr tg nr.toNatClampNeg 24 (vl, (clr gn nr.toNatClampNeg), (0 : Int32), ma, sv, sd, se, sh) p0 (x_gift kd vl p2 p1 p0)).2.2.2.1, (x_faultOfTake kd nd p0 p1 p2), (x_gets kd lo hi nd so fr tg nr.toNatClampNeg 24 (vl, (clr gn nr.toNatClampNeg), (0 : Int32), ma, sv, sd, se, sh) p0 (x_gift kd vl p2 p1 p0)).2.2.2.2.1, (x_gets kd lo hi nd so fr tg nr.toNatClampNeg 24 (vl, (clr gn nr.toNatClampNeg), (0 : Int32), ma, sv, sd, se, sh) p0 (x_gift kd vl p2 p1 p0)).2.2.2.2.2.1, (x_gets kd lo hi nd so fr tg nr.toNatClampNeg 24 (vl, (clr gn nr.toNatClampNeg), (0 : Int32), ma, sv, sd, se, sh) p0 (x_gift kd vl p2 p1 p0)).2.2.2.2.2.2.1, (x_gets kd lo hi nd so fr tg nr.toNatClampNeg 24 (vl, (clr gn nr.toNatClampNeg), (0 : Int32), ma, sv, sd, se, sh) p0 (x_gift kd vl p2 p1 p0)).2.2.2.2.2.2.2), rfl, (by unfold x_take; rw [if_pos c_1]), by rw [ht]; exact hP, va_K.moved hW.alike hK, hD⟩, hS.F ht⟩) hS.2.2 dX2_take_32
  · skip
    refine lv_iconst (v := (-1)) hx hb dX2_take_18 (by decide) ?_
    exact W.iret (v := (-1 : Int32)) hx hb hr (fun t ht hW => ⟨⟨(-1 : Int32), (kd, lo, hi, vl, nd, so, fr, tg, gn, nr, mo, ma, (x_faultOfTake kd nd p0 p1 p2), sv, sd, se, sh), rfl, (by unfold x_take; rw [if_neg c_1]), by rw [ht]; exact hP, va_K.moved hW.alike hK, hD⟩, hS.F ht⟩) hS.2.2 dX2_take_19
def x_dial (kd : Nat → Int32) (lo : Nat → Int64) (hi : Nat → Int64) (vl : Nat → Int64) (nd : Int32) (so : Nat → Int32) (fr : Nat → Int32) (tg : Nat → Int32) (gn : Nat → Int32) (nr : Int32) (mo : Int32) (ma : Int32) (fa : Int32) (sv : Nat → Int64) (sd : Nat → Int32) (se : Int32) (sh : Int32) (p0 : Int32) (p1 : Int64) (p2 : Int64) : Int32 × XS :=
  if (x_faultOfDial nd p0 p1 p2) = 0 then (nd, (upd kd nd.toNatClampNeg p0), (vp_updL lo nd.toNatClampNeg p1), (vp_updL hi nd.toNatClampNeg p2), (vp_updL vl nd.toNatClampNeg (n_fitted p0 p1 p2 (0 : Int64))), (nd + (1 : Int32)), so, fr, tg, gn, nr, mo, ma, (x_faultOfDial nd p0 p1 p2), sv, sd, se, sh)
  else ((-1 : Int32), kd, lo, hi, vl, nd, so, fr, tg, gn, nr, mo, ma, (x_faultOfDial nd p0 p1 p2), sv, sd, se, sh)
set_option maxHeartbeats 4000000 in
set_option maxRecDepth 100000 in
theorem c_X2_dial (l : Launch) (dC : Nat → ClassId) (dI : Nat → Nat → Nat) (cI cJ cZ : ClassId) (a : Nat → Nat) (kd : Nat → Int32) (lo : Nat → Int64) (hi : Nat → Int64) (vl : Nat → Int64) (nd : Int32) (so : Nat → Int32) (fr : Nat → Int32) (tg : Nat → Int32) (gn : Nat → Int32) (nr : Int32) (mo : Int32) (ma : Int32) (fa : Int32) (sv : Nat → Int64) (sd : Nat → Int32) (se : Int32) (sh : Int32) (p0 : Int32) (p1 : Int64) (p2 : Int64) (hn : 0 ≤ nd ∧ nd ≤ 16) (sz : Nat) : Met l yX2_dial wsX2_dial ({ frames := 5, cells := 0, slots := 0, locals := 120 }) (va_Pc [.ref (a 0), .int p0, .long p1, .long p2] (fun U => U.heap.size = sz ∧ va_P (dC, dI) vwCl (wX cI cJ cZ a kd lo hi vl nd so fr tg gn nr mo ma fa sv sd se sh) U.heap ∧ va_K (dC, dI) vwCl (tA cI cJ cZ) U ∧ va_D (fun _ => True) (wX cI cJ cZ a kd lo hi vl nd so fr tg gn nr mo ma fa sv sd se sh))) (va_Qi (fun (r : Int32) (u : XS) => (r, u) = x_dial kd lo hi vl nd so fr tg gn nr mo ma fa sv sd se sh p0 p1 p2) (at_X dC dI cI cJ cZ (va_A (wX cI cJ cZ a kd lo hi vl nd so fr tg gn nr mo ma fa sv sd se sh) sz) a) (va_A (wX cI cJ cZ a kd lo hi vl nd so fr tg gn nr mo ma fa sv sd se sh) sz)) 0 0 (va_A (wX cI cJ cZ a kd lo hi vl nd so fr tg gn nr mo ma fa sv sd se sh) sz) := by
  refine Met.ofW (cc := cX2_dial) (maxL := 7) (ret := (some .int)) (by decide) rfl ?_
  intro p e s m args below meth c s₁ B hml hv
  obtain ⟨rfl, hsz, hP, hK, hD0⟩ := hv
  subst hsz
  have hD := hD0.self (sz := s.heap.size)
  generalize hAe : va_A (wX cI cJ cZ a kd lo hi vl nd so fr tg gn nr mo ma fa sv sd se sh) s.heap.size = A at hD ⊢
  have hA : ∀ q : Nat, s.heap.size ≤ q → A q := fun q h => by rw [← hAe]; exact Or.inr h
  have hS : va_S A s.heap s.heap [] := va_S.rf
  have hP : va_P (dC, dI) vwCl (wX cI cJ cZ a kd lo hi vl nd so fr tg gn nr mo ma fa sv sd se sh) s.heap := hP
  have hx := B.exec
  have hb := B.bytes
  have hr := B.returns
  have hts := atoms_spec (ws := wsX2_dial) B.pre
  have hown : s.vm.findClass RX2 = some m.cls := findClass_of_methodNamed B.named
  have hlocks := B.notSynchronized
  have h_inX2 : ∀ w ∈ wsX20, w ∈ wsX2_dial := fun _ h => List.mem_cons_of_mem _ (List.mem_append_right _ h)
  have k_0 := hts (.fieldLink RX2 47 "DetentCabinet" "fault" "I") (by decide +kernel)
  have k_1 := hts (.fieldLink RX2 51 "DetentCabinet" "dialCount" "I") (by decide +kernel)
  have k_2 := hts (.fieldLink RX2 9 "DetentCabinet" "kinds" "[I") (by decide +kernel)
  have k_3 := hts (.fieldLink RX2 13 "DetentCabinet" "lows" "[J") (by decide +kernel)
  have k_4 := hts (.fieldLink RX2 17 "DetentCabinet" "highs" "[J") (by decide +kernel)
  have k_5 := hts (.fieldLink RX2 20 "DetentCabinet" "values" "[J") (by decide +kernel)
  have hl := lv_entry ([.ref (a 0), .int p0, .long p1, .long p2]) (n := 7) (Nat.le_of_ble_eq_true rfl)
  rw [lg_entry_eq]
  generalize (lg_sl ([.ref (a 0), .int p0, .long p1, .long p2]) ++ List.replicate (7 - (lg_sl ([.ref (a 0), .int p0, .long p1, .long p2])).length) Slot.unset).toArray = ls at hl ⊢
  have hl : lv_has ls 7 [(0, .ref (a 0)), (1, .int p0), (2, .long p1), (4, .long p2)] := hl
  refine lv_aload_n hx hb dX2_dial_0 rfl (lv_at hl 0 rfl) ?_
  refine lv_aload_n hx hb dX2_dial_1 rfl (lv_at hl 0 rfl) ?_
  refine lv_iload_n hx hb dX2_dial_2 rfl (lv_at hl 1 rfl) ?_
  refine lv_lload_n hx hb dX2_dial_3 rfl (lv_at hl 2 rfl) ?_
  refine lv_lload hx hb dX2_dial_4 (lv_at hl 3 rfl) ?_
  refine cs_i (W.runV (As := [.int p0, .long p1, .long p2]) (rest := [.ref (a 0)]) ⟨hx, hb, hml, hown, hts⟩ (c_X2_faultOfDial l dC dI cI cJ cZ a kd lo hi vl nd so fr tg gn nr mo ma fa sv sd se sh p0 p1 p2 ) (cwV 3 hts gX2_dial_X2_faultOfDial rfl rfl rfl (by decide +kernel) ⟨Nat.le_of_ble_eq_true rfl, Nat.le_of_ble_eq_true rfl⟩) (fb_v hK hP (va_recv hK hP (ci := 1) (q0 := 0) rfl rfl)) rfl rfl hl.1 rfl (lv_room (Nat.le_of_ble_eq_true rfl)) dX2_dial_6 ⟨Nat.zero_le _, Nat.zero_le _⟩) ?_
  refine va_put (D := (dC, dI)) (ci := 1) (v := .int (x_faultOfDial nd p0 p1 p2)) (ty := .int) (C := RX2) (T := TX2) (N := 14) hx hb hts h_inX2 tyX2 tyX2_ok nmX2 hown hK hP hD hS 0 rfl rfl 13 (by decide) k_0 (fun _ h9 => h9) rfl (by decide +kernel) rfl rfl (Nat.le_of_ble_eq_true rfl) dX2_dial_9 (fun H locs hP hD hS => ?_)
  have hP : va_P (dC, dI) vwCl (wX cI cJ cZ a kd lo hi vl nd so fr tg gn nr mo ma (x_faultOfDial nd p0 p1 p2) sv sd se sh) H := hP
  have hD : va_D A (wX cI cJ cZ a kd lo hi vl nd so fr tg gn nr mo ma (x_faultOfDial nd p0 p1 p2) sv sd se sh) := hD
  refine lv_aload_n hx hb dX2_dial_12 rfl (lv_at hl 0 rfl) ?_
  refine va_get (D := (dC, dI)) (ci := 1) (v := .int (x_faultOfDial nd p0 p1 p2)) (C := RX2) (T := TX2) (N := 14) hx hb hts h_inX2 hown hK hP 0 rfl rfl 13 (by decide) k_0 (fun _ h9 => h9) rfl dX2_dial_13 ?_
  refine lv_if_eq (tgt := 21) hx hb dX2_dial_16 (by decide) (fun c_1 => ?_) (fun c_1 => ?_)
  · skip
    refine lv_aload_n hx hb dX2_dial_21 rfl (lv_at hl 0 rfl) ?_
    refine va_get (D := (dC, dI)) (ci := 1) (v := .int nd) (C := RX2) (T := TX2) (N := 14) hx hb hts h_inX2 hown hK hP 0 rfl rfl 4 (by decide) k_1 (fun _ h9 => h9) rfl dX2_dial_22 ?_
    refine lv_istore (lv' := [(6, .int nd), (0, .ref (a 0)), (1, .int p0), (2, .long p1), (4, .long p2)]) hx hb dX2_dial_25 hl (by decide) rfl (fun ls hl => ?_)
    refine lv_aload_n hx hb dX2_dial_27 rfl (lv_at hl 1 rfl) ?_
    refine va_get (D := (dC, dI)) (ci := 1) (v := .ref (a 1)) (C := RX2) (T := TX2) (N := 14) hx hb hts h_inX2 hown hK hP 0 rfl rfl 0 (by decide) k_2 (fun _ h9 => h9) rfl dX2_dial_28 ?_
    refine lv_iload hx hb dX2_dial_31 (lv_at hl 0 rfl) ?_
    refine lv_iload_n hx hb dX2_dial_33 rfl (lv_at hl 2 rfl) ?_
    refine va_iast hx hb hK hP hD hS 1 0 rfl rfl (in_fd hn.1 (by assumption)) dX2_dial_34 (fun H locs hP hD hS => ?_)
    have hP : va_P (dC, dI) vwCl (wX cI cJ cZ a (upd kd nd.toNatClampNeg p0) lo hi vl nd so fr tg gn nr mo ma (x_faultOfDial nd p0 p1 p2) sv sd se sh) H := hP
    have hD : va_D A (wX cI cJ cZ a (upd kd nd.toNatClampNeg p0) lo hi vl nd so fr tg gn nr mo ma (x_faultOfDial nd p0 p1 p2) sv sd se sh) := hD
    refine lv_aload_n hx hb dX2_dial_35 rfl (lv_at hl 1 rfl) ?_
    refine va_get (D := (dC, dI)) (ci := 1) (v := .ref (a 2)) (C := RX2) (T := TX2) (N := 14) hx hb hts h_inX2 hown hK hP 0 rfl rfl 1 (by decide) k_3 (fun _ h9 => h9) rfl dX2_dial_36 ?_
    refine lv_iload hx hb dX2_dial_39 (lv_at hl 0 rfl) ?_
    refine lv_lload_n hx hb dX2_dial_41 rfl (lv_at hl 3 rfl) ?_
    refine va_last hx hb hK hP hD hS 2 1 rfl rfl (in_fd hn.1 (by assumption)) dX2_dial_42 (fun H locs hP hD hS => ?_)
    have hP : va_P (dC, dI) vwCl (wX cI cJ cZ a (upd kd nd.toNatClampNeg p0) (vp_updL lo nd.toNatClampNeg p1) hi vl nd so fr tg gn nr mo ma (x_faultOfDial nd p0 p1 p2) sv sd se sh) H := hP
    have hD : va_D A (wX cI cJ cZ a (upd kd nd.toNatClampNeg p0) (vp_updL lo nd.toNatClampNeg p1) hi vl nd so fr tg gn nr mo ma (x_faultOfDial nd p0 p1 p2) sv sd se sh) := hD
    refine lv_aload_n hx hb dX2_dial_43 rfl (lv_at hl 1 rfl) ?_
    refine va_get (D := (dC, dI)) (ci := 1) (v := .ref (a 3)) (C := RX2) (T := TX2) (N := 14) hx hb hts h_inX2 hown hK hP 0 rfl rfl 2 (by decide) k_4 (fun _ h9 => h9) rfl dX2_dial_44 ?_
    refine lv_iload hx hb dX2_dial_47 (lv_at hl 0 rfl) ?_
    refine lv_lload hx hb dX2_dial_49 (lv_at hl 4 rfl) ?_
    refine va_last hx hb hK hP hD hS 3 1 rfl rfl (in_fd hn.1 (by assumption)) dX2_dial_51 (fun H locs hP hD hS => ?_)
    have hP : va_P (dC, dI) vwCl (wX cI cJ cZ a (upd kd nd.toNatClampNeg p0) (vp_updL lo nd.toNatClampNeg p1) (vp_updL hi nd.toNatClampNeg p2) vl nd so fr tg gn nr mo ma (x_faultOfDial nd p0 p1 p2) sv sd se sh) H := hP
    have hD : va_D A (wX cI cJ cZ a (upd kd nd.toNatClampNeg p0) (vp_updL lo nd.toNatClampNeg p1) (vp_updL hi nd.toNatClampNeg p2) vl nd so fr tg gn nr mo ma (x_faultOfDial nd p0 p1 p2) sv sd se sh) := hD
    refine lv_aload_n hx hb dX2_dial_52 rfl (lv_at hl 1 rfl) ?_
    refine va_get (D := (dC, dI)) (ci := 1) (v := .ref (a 4)) (C := RX2) (T := TX2) (N := 14) hx hb hts h_inX2 hown hK hP 0 rfl rfl 3 (by decide) k_5 (fun _ h9 => h9) rfl dX2_dial_53 ?_
    refine lv_iload hx hb dX2_dial_56 (lv_at hl 0 rfl) ?_
    refine lv_iload_n hx hb dX2_dial_58 rfl (lv_at hl 2 rfl) ?_
    refine lv_lload_n hx hb dX2_dial_59 rfl (lv_at hl 3 rfl) ?_
    refine lv_lload hx hb dX2_dial_60 (lv_at hl 4 rfl) ?_
    refine lv_lconst (v := 0) hx hb dX2_dial_62 (by decide) ?_
    refine cs_l (W.runS (As := [.int p0, .long p1, .long p2, .long (0 : Int64)]) (rest := [.int nd, .ref (a 4)]) ⟨hx, hb, hml, hown, hts⟩ (c_X0_fitted l p0 p1 p2 (0 : Int64) ) (va_cwS 4 hts gX2_dial_X0_fitted rfl rfl rfl (by decide +kernel) ⟨Nat.le_of_ble_eq_true rfl, Nat.le_of_ble_eq_true rfl⟩) fb_s rfl rfl hl.1 rfl (lv_room (Nat.le_of_ble_eq_true rfl)) dX2_dial_63 ⟨Nat.zero_le _, Nat.zero_le _⟩) ?_
    refine va_last hx hb hK hP hD hS 4 1 rfl rfl (in_fd hn.1 (by assumption)) dX2_dial_66 (fun H locs hP hD hS => ?_)
    have hP : va_P (dC, dI) vwCl (wX cI cJ cZ a (upd kd nd.toNatClampNeg p0) (vp_updL lo nd.toNatClampNeg p1) (vp_updL hi nd.toNatClampNeg p2) (vp_updL vl nd.toNatClampNeg (n_fitted p0 p1 p2 (0 : Int64))) nd so fr tg gn nr mo ma (x_faultOfDial nd p0 p1 p2) sv sd se sh) H := hP
    have hD : va_D A (wX cI cJ cZ a (upd kd nd.toNatClampNeg p0) (vp_updL lo nd.toNatClampNeg p1) (vp_updL hi nd.toNatClampNeg p2) (vp_updL vl nd.toNatClampNeg (n_fitted p0 p1 p2 (0 : Int64))) nd so fr tg gn nr mo ma (x_faultOfDial nd p0 p1 p2) sv sd se sh) := hD
    refine lv_aload_n hx hb dX2_dial_67 rfl (lv_at hl 1 rfl) ?_
    refine lv_dup hx hb dX2_dial_68 rfl ?_
    refine va_get (D := (dC, dI)) (ci := 1) (v := .int nd) (C := RX2) (T := TX2) (N := 14) hx hb hts h_inX2 hown hK hP 0 rfl rfl 4 (by decide) k_1 (fun _ h9 => h9) rfl dX2_dial_69 ?_
    refine lv_iconst (v := 1) hx hb dX2_dial_72 (by decide) ?_
    refine lv_iadd hx hb dX2_dial_73 ?_
    refine va_put (D := (dC, dI)) (ci := 1) (v := .int (nd + (1 : Int32))) (ty := .int) (C := RX2) (T := TX2) (N := 14) hx hb hts h_inX2 tyX2 tyX2_ok nmX2 hown hK hP hD hS 0 rfl rfl 4 (by decide) k_1 (fun _ h9 => h9) rfl (by decide +kernel) rfl rfl (Nat.le_of_ble_eq_true rfl) dX2_dial_74 (fun H locs hP hD hS => ?_)
    have hP : va_P (dC, dI) vwCl (wX cI cJ cZ a (upd kd nd.toNatClampNeg p0) (vp_updL lo nd.toNatClampNeg p1) (vp_updL hi nd.toNatClampNeg p2) (vp_updL vl nd.toNatClampNeg (n_fitted p0 p1 p2 (0 : Int64))) (nd + (1 : Int32)) so fr tg gn nr mo ma (x_faultOfDial nd p0 p1 p2) sv sd se sh) H := hP
    have hD : va_D A (wX cI cJ cZ a (upd kd nd.toNatClampNeg p0) (vp_updL lo nd.toNatClampNeg p1) (vp_updL hi nd.toNatClampNeg p2) (vp_updL vl nd.toNatClampNeg (n_fitted p0 p1 p2 (0 : Int64))) (nd + (1 : Int32)) so fr tg gn nr mo ma (x_faultOfDial nd p0 p1 p2) sv sd se sh) := hD
    refine lv_iload hx hb dX2_dial_77 (lv_at hl 0 rfl) ?_
    exact W.iret (v := nd) hx hb hr (fun t ht hW => ⟨⟨nd, ((upd kd nd.toNatClampNeg p0), (vp_updL lo nd.toNatClampNeg p1), (vp_updL hi nd.toNatClampNeg p2), (vp_updL vl nd.toNatClampNeg (n_fitted p0 p1 p2 (0 : Int64))), (nd + (1 : Int32)), so, fr, tg, gn, nr, mo, ma, (x_faultOfDial nd p0 p1 p2), sv, sd, se, sh), rfl, (by unfold x_dial; rw [if_pos c_1]), by rw [ht]; exact hP, va_K.moved hW.alike hK, hD⟩, hS.F ht⟩) hS.2.2 dX2_dial_79
  · skip
    refine lv_iconst (v := (-1)) hx hb dX2_dial_19 (by decide) ?_
    exact W.iret (v := (-1 : Int32)) hx hb hr (fun t ht hW => ⟨⟨(-1 : Int32), (kd, lo, hi, vl, nd, so, fr, tg, gn, nr, mo, ma, (x_faultOfDial nd p0 p1 p2), sv, sd, se, sh), rfl, (by unfold x_dial; rw [if_neg c_1]), by rw [ht]; exact hP, va_K.moved hW.alike hK, hD⟩, hS.F ht⟩) hS.2.2 dX2_dial_20
def x_rod (kd : Nat → Int32) (lo : Nat → Int64) (hi : Nat → Int64) (vl : Nat → Int64) (nd : Int32) (so : Nat → Int32) (fr : Nat → Int32) (tg : Nat → Int32) (gn : Nat → Int32) (nr : Int32) (mo : Int32) (ma : Int32) (fa : Int32) (sv : Nat → Int64) (sd : Nat → Int32) (se : Int32) (sh : Int32) (p0 : Int32) (p1 : Int32) (p2 : Int32) : Int32 × XS :=
  if (x_faultOfRod kd nd nr p0 p1 p2) = 0 then (nr, kd, lo, hi, vl, nd, (upd so nr.toNatClampNeg p0), (upd fr nr.toNatClampNeg p1), (upd tg nr.toNatClampNeg p2), gn, (nr + (1 : Int32)), mo, ma, (x_faultOfRod kd nd nr p0 p1 p2), sv, sd, se, sh)
  else ((-1 : Int32), kd, lo, hi, vl, nd, so, fr, tg, gn, nr, mo, ma, (x_faultOfRod kd nd nr p0 p1 p2), sv, sd, se, sh)
set_option maxHeartbeats 4000000 in
set_option maxRecDepth 100000 in
theorem c_X2_rod (l : Launch) (dC : Nat → ClassId) (dI : Nat → Nat → Nat) (cI cJ cZ : ClassId) (a : Nat → Nat) (kd : Nat → Int32) (lo : Nat → Int64) (hi : Nat → Int64) (vl : Nat → Int64) (nd : Int32) (so : Nat → Int32) (fr : Nat → Int32) (tg : Nat → Int32) (gn : Nat → Int32) (nr : Int32) (mo : Int32) (ma : Int32) (fa : Int32) (sv : Nat → Int64) (sd : Nat → Int32) (se : Int32) (sh : Int32) (p0 : Int32) (p1 : Int32) (p2 : Int32) (hn : 0 ≤ nd ∧ nd ≤ 16) (hnr : 0 ≤ nr ∧ nr ≤ 24) (sz : Nat) : Met l yX2_rod wsX2_rod ({ frames := 3, cells := 0, slots := 0, locals := 67 }) (va_Pc [.ref (a 0), .int p0, .int p1, .int p2] (fun U => U.heap.size = sz ∧ va_P (dC, dI) vwCl (wX cI cJ cZ a kd lo hi vl nd so fr tg gn nr mo ma fa sv sd se sh) U.heap ∧ va_K (dC, dI) vwCl (tA cI cJ cZ) U ∧ va_D (fun _ => True) (wX cI cJ cZ a kd lo hi vl nd so fr tg gn nr mo ma fa sv sd se sh))) (va_Qi (fun (r : Int32) (u : XS) => (r, u) = x_rod kd lo hi vl nd so fr tg gn nr mo ma fa sv sd se sh p0 p1 p2) (at_X dC dI cI cJ cZ (va_A (wX cI cJ cZ a kd lo hi vl nd so fr tg gn nr mo ma fa sv sd se sh) sz) a) (va_A (wX cI cJ cZ a kd lo hi vl nd so fr tg gn nr mo ma fa sv sd se sh) sz)) 0 0 (va_A (wX cI cJ cZ a kd lo hi vl nd so fr tg gn nr mo ma fa sv sd se sh) sz) := by
  refine Met.ofW (cc := cX2_rod) (maxL := 5) (ret := (some .int)) (by decide) rfl ?_
  intro p e s m args below meth c s₁ B hml hv
  obtain ⟨rfl, hsz, hP, hK, hD0⟩ := hv
  subst hsz
  have hD := hD0.self (sz := s.heap.size)
  generalize hAe : va_A (wX cI cJ cZ a kd lo hi vl nd so fr tg gn nr mo ma fa sv sd se sh) s.heap.size = A at hD ⊢
  have hA : ∀ q : Nat, s.heap.size ≤ q → A q := fun q h => by rw [← hAe]; exact Or.inr h
  have hS : va_S A s.heap s.heap [] := va_S.rf
  have hP : va_P (dC, dI) vwCl (wX cI cJ cZ a kd lo hi vl nd so fr tg gn nr mo ma fa sv sd se sh) s.heap := hP
  have hx := B.exec
  have hb := B.bytes
  have hr := B.returns
  have hts := atoms_spec (ws := wsX2_rod) B.pre
  have hown : s.vm.findClass RX2 = some m.cls := findClass_of_methodNamed B.named
  have hlocks := B.notSynchronized
  have h_inX2 : ∀ w ∈ wsX20, w ∈ wsX2_rod := fun _ h => List.mem_cons_of_mem _ (List.mem_append_right _ h)
  have k_0 := hts (.fieldLink RX2 47 "DetentCabinet" "fault" "I") (by decide +kernel)
  have k_1 := hts (.fieldLink RX2 64 "DetentCabinet" "rodCount" "I") (by decide +kernel)
  have k_2 := hts (.fieldLink RX2 23 "DetentCabinet" "rodSorts" "[I") (by decide +kernel)
  have k_3 := hts (.fieldLink RX2 26 "DetentCabinet" "rodFroms" "[I") (by decide +kernel)
  have k_4 := hts (.fieldLink RX2 29 "DetentCabinet" "rodTos" "[I") (by decide +kernel)
  have hl := lv_entry ([.ref (a 0), .int p0, .int p1, .int p2]) (n := 5) (Nat.le_of_ble_eq_true rfl)
  rw [lg_entry_eq]
  generalize (lg_sl ([.ref (a 0), .int p0, .int p1, .int p2]) ++ List.replicate (5 - (lg_sl ([.ref (a 0), .int p0, .int p1, .int p2])).length) Slot.unset).toArray = ls at hl ⊢
  have hl : lv_has ls 5 [(0, .ref (a 0)), (1, .int p0), (2, .int p1), (3, .int p2)] := hl
  refine lv_aload_n hx hb dX2_rod_0 rfl (lv_at hl 0 rfl) ?_
  refine lv_aload_n hx hb dX2_rod_1 rfl (lv_at hl 0 rfl) ?_
  refine lv_iload_n hx hb dX2_rod_2 rfl (lv_at hl 1 rfl) ?_
  refine lv_iload_n hx hb dX2_rod_3 rfl (lv_at hl 2 rfl) ?_
  refine lv_iload_n hx hb dX2_rod_4 rfl (lv_at hl 3 rfl) ?_
  refine cs_i (W.runV (As := [.int p0, .int p1, .int p2]) (rest := [.ref (a 0)]) ⟨hx, hb, hml, hown, hts⟩ (c_X2_faultOfRod l dC dI cI cJ cZ a kd lo hi vl nd so fr tg gn nr mo ma fa sv sd se sh p0 p1 p2 hn.2) (cwV 3 hts gX2_rod_X2_faultOfRod rfl rfl rfl (by decide +kernel) ⟨Nat.le_of_ble_eq_true rfl, Nat.le_of_ble_eq_true rfl⟩) (fb_v hK hP (va_recv hK hP (ci := 1) (q0 := 0) rfl rfl)) rfl rfl hl.1 rfl (lv_room (Nat.le_of_ble_eq_true rfl)) dX2_rod_5 ⟨Nat.zero_le _, Nat.zero_le _⟩) ?_
  refine va_put (D := (dC, dI)) (ci := 1) (v := .int (x_faultOfRod kd nd nr p0 p1 p2)) (ty := .int) (C := RX2) (T := TX2) (N := 14) hx hb hts h_inX2 tyX2 tyX2_ok nmX2 hown hK hP hD hS 0 rfl rfl 13 (by decide) k_0 (fun _ h9 => h9) rfl (by decide +kernel) rfl rfl (Nat.le_of_ble_eq_true rfl) dX2_rod_8 (fun H locs hP hD hS => ?_)
  have hP : va_P (dC, dI) vwCl (wX cI cJ cZ a kd lo hi vl nd so fr tg gn nr mo ma (x_faultOfRod kd nd nr p0 p1 p2) sv sd se sh) H := hP
  have hD : va_D A (wX cI cJ cZ a kd lo hi vl nd so fr tg gn nr mo ma (x_faultOfRod kd nd nr p0 p1 p2) sv sd se sh) := hD
  refine lv_aload_n hx hb dX2_rod_11 rfl (lv_at hl 0 rfl) ?_
  refine va_get (D := (dC, dI)) (ci := 1) (v := .int (x_faultOfRod kd nd nr p0 p1 p2)) (C := RX2) (T := TX2) (N := 14) hx hb hts h_inX2 hown hK hP 0 rfl rfl 13 (by decide) k_0 (fun _ h9 => h9) rfl dX2_rod_12 ?_
  refine lv_if_eq (tgt := 20) hx hb dX2_rod_15 (by decide) (fun c_1 => ?_) (fun c_1 => ?_)
  · skip
    refine lv_aload_n hx hb dX2_rod_20 rfl (lv_at hl 0 rfl) ?_
    refine va_get (D := (dC, dI)) (ci := 1) (v := .int nr) (C := RX2) (T := TX2) (N := 14) hx hb hts h_inX2 hown hK hP 0 rfl rfl 9 (by decide) k_1 (fun _ h9 => h9) rfl dX2_rod_21 ?_
    refine lv_istore (lv' := [(4, .int nr), (0, .ref (a 0)), (1, .int p0), (2, .int p1), (3, .int p2)]) hx hb dX2_rod_24 hl (by decide) rfl (fun ls hl => ?_)
    refine lv_aload_n hx hb dX2_rod_26 rfl (lv_at hl 1 rfl) ?_
    refine va_get (D := (dC, dI)) (ci := 1) (v := .ref (a 5)) (C := RX2) (T := TX2) (N := 14) hx hb hts h_inX2 hown hK hP 0 rfl rfl 5 (by decide) k_2 (fun _ h9 => h9) rfl dX2_rod_27 ?_
    refine lv_iload hx hb dX2_rod_30 (lv_at hl 0 rfl) ?_
    refine lv_iload_n hx hb dX2_rod_32 rfl (lv_at hl 2 rfl) ?_
    refine va_iast hx hb hK hP hD hS 5 0 rfl rfl (in_fr hnr.1 (by assumption)) dX2_rod_33 (fun H locs hP hD hS => ?_)
    have hP : va_P (dC, dI) vwCl (wX cI cJ cZ a kd lo hi vl nd (upd so nr.toNatClampNeg p0) fr tg gn nr mo ma (x_faultOfRod kd nd nr p0 p1 p2) sv sd se sh) H := hP
    have hD : va_D A (wX cI cJ cZ a kd lo hi vl nd (upd so nr.toNatClampNeg p0) fr tg gn nr mo ma (x_faultOfRod kd nd nr p0 p1 p2) sv sd se sh) := hD
    refine lv_aload_n hx hb dX2_rod_34 rfl (lv_at hl 1 rfl) ?_
    refine va_get (D := (dC, dI)) (ci := 1) (v := .ref (a 6)) (C := RX2) (T := TX2) (N := 14) hx hb hts h_inX2 hown hK hP 0 rfl rfl 6 (by decide) k_3 (fun _ h9 => h9) rfl dX2_rod_35 ?_
    refine lv_iload hx hb dX2_rod_38 (lv_at hl 0 rfl) ?_
    refine lv_iload_n hx hb dX2_rod_40 rfl (lv_at hl 3 rfl) ?_
    refine va_iast hx hb hK hP hD hS 6 0 rfl rfl (in_fr hnr.1 (by assumption)) dX2_rod_41 (fun H locs hP hD hS => ?_)
    have hP : va_P (dC, dI) vwCl (wX cI cJ cZ a kd lo hi vl nd (upd so nr.toNatClampNeg p0) (upd fr nr.toNatClampNeg p1) tg gn nr mo ma (x_faultOfRod kd nd nr p0 p1 p2) sv sd se sh) H := hP
    have hD : va_D A (wX cI cJ cZ a kd lo hi vl nd (upd so nr.toNatClampNeg p0) (upd fr nr.toNatClampNeg p1) tg gn nr mo ma (x_faultOfRod kd nd nr p0 p1 p2) sv sd se sh) := hD
    refine lv_aload_n hx hb dX2_rod_42 rfl (lv_at hl 1 rfl) ?_
    refine va_get (D := (dC, dI)) (ci := 1) (v := .ref (a 7)) (C := RX2) (T := TX2) (N := 14) hx hb hts h_inX2 hown hK hP 0 rfl rfl 7 (by decide) k_4 (fun _ h9 => h9) rfl dX2_rod_43 ?_
    refine lv_iload hx hb dX2_rod_46 (lv_at hl 0 rfl) ?_
    refine lv_iload_n hx hb dX2_rod_48 rfl (lv_at hl 4 rfl) ?_
    refine va_iast hx hb hK hP hD hS 7 0 rfl rfl (in_fr hnr.1 (by assumption)) dX2_rod_49 (fun H locs hP hD hS => ?_)
    have hP : va_P (dC, dI) vwCl (wX cI cJ cZ a kd lo hi vl nd (upd so nr.toNatClampNeg p0) (upd fr nr.toNatClampNeg p1) (upd tg nr.toNatClampNeg p2) gn nr mo ma (x_faultOfRod kd nd nr p0 p1 p2) sv sd se sh) H := hP
    have hD : va_D A (wX cI cJ cZ a kd lo hi vl nd (upd so nr.toNatClampNeg p0) (upd fr nr.toNatClampNeg p1) (upd tg nr.toNatClampNeg p2) gn nr mo ma (x_faultOfRod kd nd nr p0 p1 p2) sv sd se sh) := hD
    refine lv_aload_n hx hb dX2_rod_50 rfl (lv_at hl 1 rfl) ?_
    refine lv_dup hx hb dX2_rod_51 rfl ?_
    refine va_get (D := (dC, dI)) (ci := 1) (v := .int nr) (C := RX2) (T := TX2) (N := 14) hx hb hts h_inX2 hown hK hP 0 rfl rfl 9 (by decide) k_1 (fun _ h9 => h9) rfl dX2_rod_52 ?_
    refine lv_iconst (v := 1) hx hb dX2_rod_55 (by decide) ?_
    refine lv_iadd hx hb dX2_rod_56 ?_
    refine va_put (D := (dC, dI)) (ci := 1) (v := .int (nr + (1 : Int32))) (ty := .int) (C := RX2) (T := TX2) (N := 14) hx hb hts h_inX2 tyX2 tyX2_ok nmX2 hown hK hP hD hS 0 rfl rfl 9 (by decide) k_1 (fun _ h9 => h9) rfl (by decide +kernel) rfl rfl (Nat.le_of_ble_eq_true rfl) dX2_rod_57 (fun H locs hP hD hS => ?_)
    have hP : va_P (dC, dI) vwCl (wX cI cJ cZ a kd lo hi vl nd (upd so nr.toNatClampNeg p0) (upd fr nr.toNatClampNeg p1) (upd tg nr.toNatClampNeg p2) gn (nr + (1 : Int32)) mo ma (x_faultOfRod kd nd nr p0 p1 p2) sv sd se sh) H := hP
    have hD : va_D A (wX cI cJ cZ a kd lo hi vl nd (upd so nr.toNatClampNeg p0) (upd fr nr.toNatClampNeg p1) (upd tg nr.toNatClampNeg p2) gn (nr + (1 : Int32)) mo ma (x_faultOfRod kd nd nr p0 p1 p2) sv sd se sh) := hD
    refine lv_iload hx hb dX2_rod_60 (lv_at hl 0 rfl) ?_
    exact W.iret (v := nr) hx hb hr (fun t ht hW => ⟨⟨nr, (kd, lo, hi, vl, nd, (upd so nr.toNatClampNeg p0), (upd fr nr.toNatClampNeg p1), (upd tg nr.toNatClampNeg p2), gn, (nr + (1 : Int32)), mo, ma, (x_faultOfRod kd nd nr p0 p1 p2), sv, sd, se, sh), rfl, (by unfold x_rod; rw [if_pos c_1]), by rw [ht]; exact hP, va_K.moved hW.alike hK, hD⟩, hS.F ht⟩) hS.2.2 dX2_rod_62
  · skip
    refine lv_iconst (v := (-1)) hx hb dX2_rod_18 (by decide) ?_
    exact W.iret (v := (-1 : Int32)) hx hb hr (fun t ht hW => ⟨⟨(-1 : Int32), (kd, lo, hi, vl, nd, so, fr, tg, gn, nr, mo, ma, (x_faultOfRod kd nd nr p0 p1 p2), sv, sd, se, sh), rfl, (by unfold x_rod; rw [if_neg c_1]), by rw [ht]; exact hP, va_K.moved hW.alike hK, hD⟩, hS.F ht⟩) hS.2.2 dX2_rod_19
def x_order (kd : Nat → Int32) (lo : Nat → Int64) (hi : Nat → Int64) (vl : Nat → Int64) (nd : Int32) (so : Nat → Int32) (fr : Nat → Int32) (tg : Nat → Int32) (gn : Nat → Int32) (nr : Int32) (mo : Int32) (ma : Int32) (fa : Int32) (sv : Nat → Int64) (sd : Nat → Int32) (se : Int32) (sh : Int32) (p0 : Int32) (p1 : Int32) : Int32 × XS :=
  if (x_faultOfOrder kd nd p0 p1) = 0 then ((n_compared (kd p0.toNatClampNeg) (vl p0.toNatClampNeg) (vl p1.toNatClampNeg)), kd, lo, hi, vl, nd, so, fr, tg, gn, nr, mo, ma, (x_faultOfOrder kd nd p0 p1), sv, sd, se, sh)
  else ((-2 : Int32), kd, lo, hi, vl, nd, so, fr, tg, gn, nr, mo, ma, (x_faultOfOrder kd nd p0 p1), sv, sd, se, sh)
set_option maxHeartbeats 4000000 in
set_option maxRecDepth 100000 in
theorem c_X2_order (l : Launch) (dC : Nat → ClassId) (dI : Nat → Nat → Nat) (cI cJ cZ : ClassId) (a : Nat → Nat) (kd : Nat → Int32) (lo : Nat → Int64) (hi : Nat → Int64) (vl : Nat → Int64) (nd : Int32) (so : Nat → Int32) (fr : Nat → Int32) (tg : Nat → Int32) (gn : Nat → Int32) (nr : Int32) (mo : Int32) (ma : Int32) (fa : Int32) (sv : Nat → Int64) (sd : Nat → Int32) (se : Int32) (sh : Int32) (p0 : Int32) (p1 : Int32) (hn : 0 ≤ nd ∧ nd ≤ 16) (sz : Nat) : Met l yX2_order wsX2_order ({ frames := 3, cells := 0, slots := 0, locals := 70 }) (va_Pc [.ref (a 0), .int p0, .int p1] (fun U => U.heap.size = sz ∧ va_P (dC, dI) vwCl (wX cI cJ cZ a kd lo hi vl nd so fr tg gn nr mo ma fa sv sd se sh) U.heap ∧ va_K (dC, dI) vwCl (tA cI cJ cZ) U ∧ va_D (fun _ => True) (wX cI cJ cZ a kd lo hi vl nd so fr tg gn nr mo ma fa sv sd se sh))) (va_Qi (fun (r : Int32) (u : XS) => (r, u) = x_order kd lo hi vl nd so fr tg gn nr mo ma fa sv sd se sh p0 p1) (at_X dC dI cI cJ cZ (va_A (wX cI cJ cZ a kd lo hi vl nd so fr tg gn nr mo ma fa sv sd se sh) sz) a) (va_A (wX cI cJ cZ a kd lo hi vl nd so fr tg gn nr mo ma fa sv sd se sh) sz)) 0 0 (va_A (wX cI cJ cZ a kd lo hi vl nd so fr tg gn nr mo ma fa sv sd se sh) sz) := by
  refine Met.ofW (cc := cX2_order) (maxL := 3) (ret := (some .int)) (by decide) rfl ?_
  intro p e s m args below meth c s₁ B hml hv
  obtain ⟨rfl, hsz, hP, hK, hD0⟩ := hv
  subst hsz
  have hD := hD0.self (sz := s.heap.size)
  generalize hAe : va_A (wX cI cJ cZ a kd lo hi vl nd so fr tg gn nr mo ma fa sv sd se sh) s.heap.size = A at hD ⊢
  have hA : ∀ q : Nat, s.heap.size ≤ q → A q := fun q h => by rw [← hAe]; exact Or.inr h
  have hS : va_S A s.heap s.heap [] := va_S.rf
  have hP : va_P (dC, dI) vwCl (wX cI cJ cZ a kd lo hi vl nd so fr tg gn nr mo ma fa sv sd se sh) s.heap := hP
  have hx := B.exec
  have hb := B.bytes
  have hr := B.returns
  have hts := atoms_spec (ws := wsX2_order) B.pre
  have hown : s.vm.findClass RX2 = some m.cls := findClass_of_methodNamed B.named
  have hlocks := B.notSynchronized
  have h_inX2 : ∀ w ∈ wsX20, w ∈ wsX2_order := fun _ h => List.mem_cons_of_mem _ (List.mem_append_right _ h)
  have k_0 := hts (.fieldLink RX2 47 "DetentCabinet" "fault" "I") (by decide +kernel)
  have k_1 := hts (.fieldLink RX2 9 "DetentCabinet" "kinds" "[I") (by decide +kernel)
  have k_2 := hts (.fieldLink RX2 20 "DetentCabinet" "values" "[J") (by decide +kernel)
  have hl := lv_entry ([.ref (a 0), .int p0, .int p1]) (n := 3) (Nat.le_of_ble_eq_true rfl)
  rw [lg_entry_eq]
  generalize (lg_sl ([.ref (a 0), .int p0, .int p1]) ++ List.replicate (3 - (lg_sl ([.ref (a 0), .int p0, .int p1])).length) Slot.unset).toArray = ls at hl ⊢
  have hl : lv_has ls 3 [(0, .ref (a 0)), (1, .int p0), (2, .int p1)] := hl
  refine lv_aload_n hx hb dX2_order_0 rfl (lv_at hl 0 rfl) ?_
  refine lv_aload_n hx hb dX2_order_1 rfl (lv_at hl 0 rfl) ?_
  refine lv_iload_n hx hb dX2_order_2 rfl (lv_at hl 1 rfl) ?_
  refine lv_iload_n hx hb dX2_order_3 rfl (lv_at hl 2 rfl) ?_
  refine cs_i (W.runV (As := [.int p0, .int p1]) (rest := [.ref (a 0)]) ⟨hx, hb, hml, hown, hts⟩ (c_X2_faultOfOrder l dC dI cI cJ cZ a kd lo hi vl nd so fr tg gn nr mo ma fa sv sd se sh p0 p1 hn.2) (cwV 2 hts gX2_order_X2_faultOfOrder rfl rfl rfl (by decide +kernel) ⟨Nat.le_of_ble_eq_true rfl, Nat.le_of_ble_eq_true rfl⟩) (fb_v hK hP (va_recv hK hP (ci := 1) (q0 := 0) rfl rfl)) rfl rfl hl.1 rfl (lv_room (Nat.le_of_ble_eq_true rfl)) dX2_order_4 ⟨Nat.zero_le _, Nat.zero_le _⟩) ?_
  refine va_put (D := (dC, dI)) (ci := 1) (v := .int (x_faultOfOrder kd nd p0 p1)) (ty := .int) (C := RX2) (T := TX2) (N := 14) hx hb hts h_inX2 tyX2 tyX2_ok nmX2 hown hK hP hD hS 0 rfl rfl 13 (by decide) k_0 (fun _ h9 => h9) rfl (by decide +kernel) rfl rfl (Nat.le_of_ble_eq_true rfl) dX2_order_7 (fun H locs hP hD hS => ?_)
  have hP : va_P (dC, dI) vwCl (wX cI cJ cZ a kd lo hi vl nd so fr tg gn nr mo ma (x_faultOfOrder kd nd p0 p1) sv sd se sh) H := hP
  have hD : va_D A (wX cI cJ cZ a kd lo hi vl nd so fr tg gn nr mo ma (x_faultOfOrder kd nd p0 p1) sv sd se sh) := hD
  refine lv_aload_n hx hb dX2_order_10 rfl (lv_at hl 0 rfl) ?_
  refine va_get (D := (dC, dI)) (ci := 1) (v := .int (x_faultOfOrder kd nd p0 p1)) (C := RX2) (T := TX2) (N := 14) hx hb hts h_inX2 hown hK hP 0 rfl rfl 13 (by decide) k_0 (fun _ h9 => h9) rfl dX2_order_11 ?_
  refine lv_if_eq (tgt := 20) hx hb dX2_order_14 (by decide) (fun c_1 => ?_) (fun c_1 => ?_)
  · skip
    refine lv_aload_n hx hb dX2_order_20 rfl (lv_at hl 0 rfl) ?_
    refine va_get (D := (dC, dI)) (ci := 1) (v := .ref (a 1)) (C := RX2) (T := TX2) (N := 14) hx hb hts h_inX2 hown hK hP 0 rfl rfl 0 (by decide) k_1 (fun _ h9 => h9) rfl dX2_order_21 ?_
    refine lv_iload_n hx hb dX2_order_24 rfl (lv_at hl 1 rfl) ?_
    refine va_iald hx hb hK hP 1 0 rfl rfl (in_fo hn.2 (by assumption)).1 dX2_order_25 ?_
    refine lv_aload_n hx hb dX2_order_26 rfl (lv_at hl 0 rfl) ?_
    refine va_get (D := (dC, dI)) (ci := 1) (v := .ref (a 4)) (C := RX2) (T := TX2) (N := 14) hx hb hts h_inX2 hown hK hP 0 rfl rfl 3 (by decide) k_2 (fun _ h9 => h9) rfl dX2_order_27 ?_
    refine lv_iload_n hx hb dX2_order_30 rfl (lv_at hl 1 rfl) ?_
    refine va_lald hx hb hK hP 4 1 rfl rfl (in_fo hn.2 (by assumption)).1 dX2_order_31 ?_
    refine lv_aload_n hx hb dX2_order_32 rfl (lv_at hl 0 rfl) ?_
    refine va_get (D := (dC, dI)) (ci := 1) (v := .ref (a 4)) (C := RX2) (T := TX2) (N := 14) hx hb hts h_inX2 hown hK hP 0 rfl rfl 3 (by decide) k_2 (fun _ h9 => h9) rfl dX2_order_33 ?_
    refine lv_iload_n hx hb dX2_order_36 rfl (lv_at hl 2 rfl) ?_
    refine va_lald hx hb hK hP 4 1 rfl rfl (in_fo hn.2 (by assumption)).2 dX2_order_37 ?_
    refine cs_i (W.runS (As := [.int (kd p0.toNatClampNeg), .long (vl p0.toNatClampNeg), .long (vl p1.toNatClampNeg)]) (rest := []) ⟨hx, hb, hml, hown, hts⟩ (c_X0_compared l (kd p0.toNatClampNeg) (vl p0.toNatClampNeg) (vl p1.toNatClampNeg) ) (va_cwS 3 hts gX2_order_X0_compared rfl rfl rfl (by decide +kernel) ⟨Nat.le_of_ble_eq_true rfl, Nat.le_of_ble_eq_true rfl⟩) fb_s rfl rfl hl.1 rfl (lv_room (Nat.le_of_ble_eq_true rfl)) dX2_order_38 ⟨Nat.zero_le _, Nat.zero_le _⟩) ?_
    exact W.iret (v := (n_compared (kd p0.toNatClampNeg) (vl p0.toNatClampNeg) (vl p1.toNatClampNeg))) hx hb hr (fun t ht hW => ⟨⟨(n_compared (kd p0.toNatClampNeg) (vl p0.toNatClampNeg) (vl p1.toNatClampNeg)), (kd, lo, hi, vl, nd, so, fr, tg, gn, nr, mo, ma, (x_faultOfOrder kd nd p0 p1), sv, sd, se, sh), rfl, (by unfold x_order; rw [if_pos c_1]), by rw [ht]; exact hP, va_K.moved hW.alike hK, hD⟩, hS.F ht⟩) hS.2.2 dX2_order_41
  · skip
    refine lv_bipush (v := (-2)) hx hb dX2_order_17 (by decide) ?_
    exact W.iret (v := (-2 : Int32)) hx hb hr (fun t ht hW => ⟨⟨(-2 : Int32), (kd, lo, hi, vl, nd, so, fr, tg, gn, nr, mo, ma, (x_faultOfOrder kd nd p0 p1), sv, sd, se, sh), rfl, (by unfold x_order; rw [if_neg c_1]), by rw [ht]; exact hP, va_K.moved hW.alike hK, hD⟩, hS.F ht⟩) hS.2.2 dX2_order_19
