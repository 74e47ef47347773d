theorem nr_nat {nr : Int32} (h : 0 ≤ nr ∧ nr ≤ 24) : nr = nI nr.toNatClampNeg ∧ nr.toNatClampNeg ≤ 24 := by
  obtain ⟨N, hN, rfl⟩ := nI_of2 (M := 24) (n := 24) (by decide) (Int32.not_lt.mpr h.1) h.2
  rw [nI_clamp (by omega)]
  exact ⟨rfl, hN⟩
section GE
variable {kd : Nat → Int32} {lo hi : Nat → Int64} {nd : Int32} {so fr tg : Nat → Int32} {N k : Nat} {u : VS} {d : Int32} {v : Int64}
theorem x_gets_same (h : x_fit kd lo hi d v = u.1 d.toNatClampNeg) : x_gets kd lo hi nd so fr tg N k u d v = u := by
  cases k <;> (unfold x_gets; rw [if_pos h])
theorem x_gets_zero (h : ¬ x_fit kd lo hi d v = u.1 d.toNatClampNeg) : x_gets kd lo hi nd so fr tg N 0 u d v = v_move nd u d (x_fit kd lo hi d v) := by
  unfold x_gets; rw [if_neg h]
theorem x_gets_succ (h : ¬ x_fit kd lo hi d v = u.1 d.toNatClampNeg) : x_gets kd lo hi nd so fr tg N (k + 1) u d v = x_rods (x_step kd so fr tg (x_gets kd lo hi nd so fr tg N k) d) N 0 (v_move nd u d (x_fit kd lo hi d v)) := by
  conv => lhs; unfold x_gets
  rw [if_neg h]
end GE
set_option maxHeartbeats 4000000 in
set_option maxRecDepth 100000 in
theorem gets_all (l : Launch) (dC : Nat → ClassId) (dI : Nat → Nat → Nat) (cI cJ cZ : ClassId) (a : Nat → Nat) (kd : Nat → Int32) (lo : Nat → Int64) (hi : Nat → Int64) (nd : Int32) (so : Nat → Int32) (fr : Nat → Int32) (tg : Nat → Int32) (nr : Int32) (fa : Int32) (hn : 0 ≤ nd ∧ nd ≤ 16) (hnr : 0 ≤ nr ∧ nr ≤ 24) (htg : ∀ j, vp_in (tg j) 16) : ∀ k, k ≤ 24 → GetsMet l dC dI cI cJ cZ a kd lo hi nd so fr tg nr fa k := by
  intro k
  induction k with
  | zero =>
    intro hk vl gn mo ma sv sd se sh p0 p1 hE hd sz
    refine Met.ofW (cc := cX2_gets) (maxL := 8) (ret := none) (by decide) rfl ?_
    intro p e s m args below meth c s₁ B hml hv
    obtain ⟨rfl, hsz, hP, hK, hD0⟩ := hv
    subst hsz
    have hD := hD0.self (sz := s.heap.size)
    generalize hAe : va_A (wX cI cJ cZ a kd lo hi vl nd so fr tg gn nr mo ma fa sv sd se sh) s.heap.size = A at hD ⊢
    have hA : ∀ q : Nat, s.heap.size ≤ q → A q := fun q h => by rw [← hAe]; exact Or.inr h
    have hS : va_S A s.heap s.heap [] := va_S.rf
    have hP : va_P (dC, dI) vwCl (wX cI cJ cZ a kd lo hi vl nd so fr tg gn nr mo ma fa sv sd se sh) s.heap := hP
    have hx := B.exec
    have hb := B.bytes
    have hr := B.returns
    have hts := atoms_spec (ws := wsX2_gets) B.pre
    have hown : s.vm.findClass RX2 = some m.cls := findClass_of_methodNamed B.named
    have hlocks := B.notSynchronized
    have h_inX2 : ∀ w ∈ wsX20, w ∈ wsX2_gets := fun _ h => List.mem_cons_of_mem _ (List.mem_append_left _ (List.mem_append_right _ h))
    have k_0 := hts (.fieldLink RX2 9 "DetentCabinet" "kinds" "[I") (by decide +kernel)
    have k_1 := hts (.fieldLink RX2 13 "DetentCabinet" "lows" "[J") (by decide +kernel)
    have k_2 := hts (.fieldLink RX2 17 "DetentCabinet" "highs" "[J") (by decide +kernel)
    have k_3 := hts (.fieldLink RX2 20 "DetentCabinet" "values" "[J") (by decide +kernel)
    have hl := lv_entry ([.ref (a 0), .int p0, .long p1, .int (nI (24 - 0))]) (n := 8) (Nat.le_of_ble_eq_true rfl)
    rw [lg_entry_eq]
    generalize (lg_sl ([.ref (a 0), .int p0, .long p1, .int (nI (24 - 0))]) ++ List.replicate (8 - (lg_sl ([.ref (a 0), .int p0, .long p1, .int (nI (24 - 0))])).length) Slot.unset).toArray = ls at hl ⊢
    have hl : lv_has ls 8 [(0, .ref (a 0)), (1, .int p0), (2, .long p1), (4, .int (nI (24 - 0)))] := hl
    refine lv_aload_n hx hb dX2_gets_0 rfl (lv_at hl 0 rfl) ?_
    refine va_get (D := (dC, dI)) (ci := 1) (v := .ref (a 1)) (C := RX2) (T := TX2) (N := 14) hx hb hts h_inX2 hown hK hP 0 rfl rfl 0 (by decide) k_0 (fun _ h9 => h9) rfl dX2_gets_1 ?_
    refine lv_iload_n hx hb dX2_gets_4 rfl (lv_at hl 1 rfl) ?_
    refine va_iald hx hb hK hP 1 0 rfl rfl (by assumption) dX2_gets_5 ?_
    refine lv_aload_n hx hb dX2_gets_6 rfl (lv_at hl 0 rfl) ?_
    refine va_get (D := (dC, dI)) (ci := 1) (v := .ref (a 2)) (C := RX2) (T := TX2) (N := 14) hx hb hts h_inX2 hown hK hP 0 rfl rfl 1 (by decide) k_1 (fun _ h9 => h9) rfl dX2_gets_7 ?_
    refine lv_iload_n hx hb dX2_gets_10 rfl (lv_at hl 1 rfl) ?_
    refine va_lald hx hb hK hP 2 1 rfl rfl (by assumption) dX2_gets_11 ?_
    refine lv_aload_n hx hb dX2_gets_12 rfl (lv_at hl 0 rfl) ?_
    refine va_get (D := (dC, dI)) (ci := 1) (v := .ref (a 3)) (C := RX2) (T := TX2) (N := 14) hx hb hts h_inX2 hown hK hP 0 rfl rfl 2 (by decide) k_2 (fun _ h9 => h9) rfl dX2_gets_13 ?_
    refine lv_iload_n hx hb dX2_gets_16 rfl (lv_at hl 1 rfl) ?_
    refine va_lald hx hb hK hP 3 1 rfl rfl (by assumption) dX2_gets_17 ?_
    refine lv_lload_n hx hb dX2_gets_18 rfl (lv_at hl 2 rfl) ?_
    refine cs_l (W.runS (As := [.int (kd p0.toNatClampNeg), .long (lo p0.toNatClampNeg), .long (hi p0.toNatClampNeg), .long p1]) (rest := []) ⟨hx, hb, hml, hown, hts⟩ (c_X0_fitted l (kd p0.toNatClampNeg) (lo p0.toNatClampNeg) (hi p0.toNatClampNeg) p1 ) (va_cwS 4 hts gX2_gets_X0_fitted rfl rfl rfl (by decide +kernel) ⟨by show 4 + 1 ≤ 5 + 0; omega, by show 8 + (7 + 11) + 94 ≤ 120 + 27 * 0; omega⟩) fb_s rfl rfl hl.1 rfl (lv_room (Nat.le_of_ble_eq_true rfl)) dX2_gets_19 ⟨Nat.zero_le _, Nat.zero_le _⟩) ?_
    refine lv_lstore (lv' := [(5, .long (n_fitted (kd p0.toNatClampNeg) (lo p0.toNatClampNeg) (hi p0.toNatClampNeg) p1)), (0, .ref (a 0)), (1, .int p0), (2, .long p1), (4, .int (nI (24 - 0)))]) hx hb dX2_gets_22 hl (by decide) rfl (fun ls hl => ?_)
    refine lv_lload hx hb dX2_gets_24 (lv_at hl 0 rfl) ?_
    refine lv_aload_n hx hb dX2_gets_26 rfl (lv_at hl 1 rfl) ?_
    refine va_get (D := (dC, dI)) (ci := 1) (v := .ref (a 4)) (C := RX2) (T := TX2) (N := 14) hx hb hts h_inX2 hown hK hP 0 rfl rfl 3 (by decide) k_3 (fun _ h9 => h9) rfl dX2_gets_27 ?_
    refine lv_iload_n hx hb dX2_gets_30 rfl (lv_at hl 2 rfl) ?_
    refine va_lald hx hb hK hP 4 1 rfl rfl (by assumption) dX2_gets_31 ?_
    refine W.lcmp hx hb dX2_gets_32 ?_
    refine lv_if_ne (tgt := 37) hx hb dX2_gets_33 (by decide) (fun c_1 => ?_) (fun c_1 => ?_)
    · skip
      have c_1 : ¬ ((n_fitted (kd p0.toNatClampNeg) (lo p0.toNatClampNeg) (hi p0.toNatClampNeg) p1) = (vl p0.toNatClampNeg)) := fun h => c_1 ((lg_cmp_eq _ _).mpr h)
      refine lv_aload_n hx hb dX2_gets_37 rfl (lv_at hl 1 rfl) ?_
      refine lv_iload_n hx hb dX2_gets_38 rfl (lv_at hl 2 rfl) ?_
      refine lv_lload hx hb dX2_gets_39 (lv_at hl 0 rfl) ?_
      have hFc := va_free (wc := (wX cI cJ cZ a kd lo hi vl nd so fr tg gn nr mo ma fa sv sd se sh)) hD hS hA [0, 1, 2, 3, 4, 5, 6, 7, 8, 9, 10, 11] rfl
      refine va_callv (va_runV (As := [.int p0, .long (n_fitted (kd p0.toNatClampNeg) (lo p0.toNatClampNeg) (hi p0.toNatClampNeg) p1)]) (rest := []) ⟨hx, hb, hml, hown, hts⟩ (c_X2_move l dC dI cI cJ cZ a kd lo hi vl nd so fr tg gn nr mo ma fa sv sd se sh p0 (n_fitted (kd p0.toNatClampNeg) (lo p0.toNatClampNeg) (hi p0.toNatClampNeg) p1) hE hn hd s.heap.size) (cwV 2 hts gX2_gets_X2_move rfl rfl rfl (by decide +kernel) ⟨by show 2 + 1 ≤ 5 + 0; omega, by show 8 + (4 + 11) + 49 ≤ 120 + 27 * 0; omega⟩) (fb_m hK hP hD (va_recv hK hP (ci := 1) (q0 := 0) rfl rfl)) rfl rfl hl.1 rfl (lv_room (Nat.le_of_ble_eq_true rfl)) dX2_gets_41 ⟨Nat.zero_le _, Nat.zero_le _⟩) hS (fun q _ h => hFc q h) hFc (fun u t H1 locs ht hvm hw_2 hB hz1 hk1 hS => ?_)
      obtain ⟨kd_2, lo_2, hi_2, vl_2, nd_2, so_2, fr_2, tg_2, gn_2, nr_2, mo_2, ma_2, fa_2, sv_2, sd_2, se_2, sh_2⟩ := u
      rw [x_move_eq] at hw_2
      have hw_2 := hw_2.symm
      simp only [Prod.mk.injEq] at hw_2
      obtain ⟨rfl, rfl, rfl, rfl, rfl, rfl, rfl, rfl, rfl, rfl, rfl, rfl, rfl, rfl, rfl, rfl, rfl⟩ := hw_2
      obtain ⟨hP1, hK1, hD1⟩ := hB
      rw [ht] at hP1
      obtain ⟨hP, hD⟩ := va_join (wr := []) (w1 := (wX cI cJ cZ a kd lo hi (vp_updL vl p0.toNatClampNeg (n_fitted (kd p0.toNatClampNeg) (lo p0.toNatClampNeg) (hi p0.toNatClampNeg) p1)) nd so fr tg gn nr (mo + 1) (ma + 1) fa (if mo = 0 then (k_sv vl sv se sh nd) else sv) (if mo = 0 then (k_sd sd se sh nd) else sd) (if mo = 0 then (k_se se sh) else se) (if mo = 0 then (k_sh sh) else sh))) hP hD [0, 1, 2, 3, 4, 5, 6, 7, 8, 9, 10, 11] [] rfl rfl (by decide) (by decide) hk1 hFc hP1 hD1
      generalize H1 = H at hP hS ⊢
      have hP : va_P (dC, dI) vwCl (wX cI cJ cZ a kd lo hi (vp_updL vl p0.toNatClampNeg (n_fitted (kd p0.toNatClampNeg) (lo p0.toNatClampNeg) (hi p0.toNatClampNeg) p1)) nd so fr tg gn nr (mo + 1) (ma + 1) fa (if mo = 0 then (k_sv vl sv se sh nd) else sv) (if mo = 0 then (k_sd sd se sh nd) else sd) (if mo = 0 then (k_se se sh) else se) (if mo = 0 then (k_sh sh) else sh)) H := hP
      have hD : va_D A (wX cI cJ cZ a kd lo hi (vp_updL vl p0.toNatClampNeg (n_fitted (kd p0.toNatClampNeg) (lo p0.toNatClampNeg) (hi p0.toNatClampNeg) p1)) nd so fr tg gn nr (mo + 1) (ma + 1) fa (if mo = 0 then (k_sv vl sv se sh nd) else sv) (if mo = 0 then (k_sd sd se sh nd) else sd) (if mo = 0 then (k_se se sh) else se) (if mo = 0 then (k_sh sh) else sh)) := hD
      refine lv_iload hx hb dX2_gets_44 (lv_at hl 4 rfl) ?_
      refine lv_bipush (v := 24) hx hb dX2_gets_46 (by decide) ?_
      refine lv_icmp_lt (tgt := 52) hx hb dX2_gets_48 (by decide) (fun c_3 => ?_) (fun c_3 => ?_)
      · skip
        exact absurd c_3 (by decide)
      · skip
        exact W.vret hx hb hr (fun t ht hW => ⟨⟨(kd, lo, hi, (vp_updL vl p0.toNatClampNeg (n_fitted (kd p0.toNatClampNeg) (lo p0.toNatClampNeg) (hi p0.toNatClampNeg) p1)), nd, so, fr, tg, gn, nr, (mo + 1), (ma + 1), fa, (if mo = 0 then (k_sv vl sv se sh nd) else sv), (if mo = 0 then (k_sd sd se sh nd) else sd), (if mo = 0 then (k_se se sh) else se), (if mo = 0 then (k_sh sh) else sh)), rfl, (congrArg (g_tup kd lo hi nd so fr tg nr fa) (x_gets_zero (u := (vl, gn, mo, ma, sv, sd, se, sh)) c_1)).symm, by rw [ht]; exact hP, va_K.moved hW.alike hK, hD⟩, hS.F ht⟩) hS.2.2 dX2_gets_51
    · skip
      have c_1 : (n_fitted (kd p0.toNatClampNeg) (lo p0.toNatClampNeg) (hi p0.toNatClampNeg) p1) = (vl p0.toNatClampNeg) := (lg_cmp_eq _ _).mp c_1
      exact W.vret hx hb hr (fun t ht hW => ⟨⟨(kd, lo, hi, vl, nd, so, fr, tg, gn, nr, mo, ma, fa, sv, sd, se, sh), rfl, (congrArg (g_tup kd lo hi nd so fr tg nr fa) (x_gets_same (u := (vl, gn, mo, ma, sv, sd, se, sh)) c_1)).symm, by rw [ht]; exact hP, va_K.moved hW.alike hK, hD⟩, hS.F ht⟩) hS.2.2 dX2_gets_36
  | succ k ih =>
    intro hk vl gn mo ma sv sd se sh p0 p1 hE hd sz
    refine Met.ofW (cc := cX2_gets) (maxL := 8) (ret := none) (by decide) rfl ?_
    intro p e s m args below meth c s₁ B hml hv
    obtain ⟨rfl, hsz, hP, hK, hD0⟩ := hv
    subst hsz
    have hD := hD0.self (sz := s.heap.size)
    generalize hAe : va_A (wX cI cJ cZ a kd lo hi vl nd so fr tg gn nr mo ma fa sv sd se sh) s.heap.size = A at hD ⊢
    have hA : ∀ q : Nat, s.heap.size ≤ q → A q := fun q h => by rw [← hAe]; exact Or.inr h
    have hS : va_S A s.heap s.heap [] := va_S.rf
    have hP : va_P (dC, dI) vwCl (wX cI cJ cZ a kd lo hi vl nd so fr tg gn nr mo ma fa sv sd se sh) s.heap := hP
    have hx := B.exec
    have hb := B.bytes
    have hr := B.returns
    have hts := atoms_spec (ws := wsX2_gets) B.pre
    have hown : s.vm.findClass RX2 = some m.cls := findClass_of_methodNamed B.named
    have hlocks := B.notSynchronized
    have h_inX2 : ∀ w ∈ wsX20, w ∈ wsX2_gets := fun _ h => List.mem_cons_of_mem _ (List.mem_append_left _ (List.mem_append_right _ h))
    have k_0 := hts (.fieldLink RX2 9 "DetentCabinet" "kinds" "[I") (by decide +kernel)
    have k_1 := hts (.fieldLink RX2 13 "DetentCabinet" "lows" "[J") (by decide +kernel)
    have k_2 := hts (.fieldLink RX2 17 "DetentCabinet" "highs" "[J") (by decide +kernel)
    have k_3 := hts (.fieldLink RX2 20 "DetentCabinet" "values" "[J") (by decide +kernel)
    have hl := lv_entry ([.ref (a 0), .int p0, .long p1, .int (nI (24 - (k + 1)))]) (n := 8) (Nat.le_of_ble_eq_true rfl)
    rw [lg_entry_eq]
    generalize (lg_sl ([.ref (a 0), .int p0, .long p1, .int (nI (24 - (k + 1)))]) ++ List.replicate (8 - (lg_sl ([.ref (a 0), .int p0, .long p1, .int (nI (24 - (k + 1)))])).length) Slot.unset).toArray = ls at hl ⊢
    have hl : lv_has ls 8 [(0, .ref (a 0)), (1, .int p0), (2, .long p1), (4, .int (nI (24 - (k + 1))))] := hl
    refine lv_aload_n hx hb dX2_gets_0 rfl (lv_at hl 0 rfl) ?_
    refine va_get (D := (dC, dI)) (ci := 1) (v := .ref (a 1)) (C := RX2) (T := TX2) (N := 14) hx hb hts h_inX2 hown hK hP 0 rfl rfl 0 (by decide) k_0 (fun _ h9 => h9) rfl dX2_gets_1 ?_
    refine lv_iload_n hx hb dX2_gets_4 rfl (lv_at hl 1 rfl) ?_
    refine va_iald hx hb hK hP 1 0 rfl rfl (by assumption) dX2_gets_5 ?_
    refine lv_aload_n hx hb dX2_gets_6 rfl (lv_at hl 0 rfl) ?_
    refine va_get (D := (dC, dI)) (ci := 1) (v := .ref (a 2)) (C := RX2) (T := TX2) (N := 14) hx hb hts h_inX2 hown hK hP 0 rfl rfl 1 (by decide) k_1 (fun _ h9 => h9) rfl dX2_gets_7 ?_
    refine lv_iload_n hx hb dX2_gets_10 rfl (lv_at hl 1 rfl) ?_
    refine va_lald hx hb hK hP 2 1 rfl rfl (by assumption) dX2_gets_11 ?_
    refine lv_aload_n hx hb dX2_gets_12 rfl (lv_at hl 0 rfl) ?_
    refine va_get (D := (dC, dI)) (ci := 1) (v := .ref (a 3)) (C := RX2) (T := TX2) (N := 14) hx hb hts h_inX2 hown hK hP 0 rfl rfl 2 (by decide) k_2 (fun _ h9 => h9) rfl dX2_gets_13 ?_
    refine lv_iload_n hx hb dX2_gets_16 rfl (lv_at hl 1 rfl) ?_
    refine va_lald hx hb hK hP 3 1 rfl rfl (by assumption) dX2_gets_17 ?_
    refine lv_lload_n hx hb dX2_gets_18 rfl (lv_at hl 2 rfl) ?_
    refine cs_l (W.runS (As := [.int (kd p0.toNatClampNeg), .long (lo p0.toNatClampNeg), .long (hi p0.toNatClampNeg), .long p1]) (rest := []) ⟨hx, hb, hml, hown, hts⟩ (c_X0_fitted l (kd p0.toNatClampNeg) (lo p0.toNatClampNeg) (hi p0.toNatClampNeg) p1 ) (va_cwS 4 hts gX2_gets_X0_fitted rfl rfl rfl (by decide +kernel) ⟨by show 4 + 1 ≤ 5 + (k + 1); omega, by show 8 + (7 + 11) + 94 ≤ 120 + 27 * (k + 1); omega⟩) fb_s rfl rfl hl.1 rfl (lv_room (Nat.le_of_ble_eq_true rfl)) dX2_gets_19 ⟨Nat.zero_le _, Nat.zero_le _⟩) ?_
    refine lv_lstore (lv' := [(5, .long (n_fitted (kd p0.toNatClampNeg) (lo p0.toNatClampNeg) (hi p0.toNatClampNeg) p1)), (0, .ref (a 0)), (1, .int p0), (2, .long p1), (4, .int (nI (24 - (k + 1))))]) hx hb dX2_gets_22 hl (by decide) rfl (fun ls hl => ?_)
    refine lv_lload hx hb dX2_gets_24 (lv_at hl 0 rfl) ?_
    refine lv_aload_n hx hb dX2_gets_26 rfl (lv_at hl 1 rfl) ?_
    refine va_get (D := (dC, dI)) (ci := 1) (v := .ref (a 4)) (C := RX2) (T := TX2) (N := 14) hx hb hts h_inX2 hown hK hP 0 rfl rfl 3 (by decide) k_3 (fun _ h9 => h9) rfl dX2_gets_27 ?_
    refine lv_iload_n hx hb dX2_gets_30 rfl (lv_at hl 2 rfl) ?_
    refine va_lald hx hb hK hP 4 1 rfl rfl (by assumption) dX2_gets_31 ?_
    refine W.lcmp hx hb dX2_gets_32 ?_
    refine lv_if_ne (tgt := 37) hx hb dX2_gets_33 (by decide) (fun c_1 => ?_) (fun c_1 => ?_)
    · skip
      have c_1 : ¬ ((n_fitted (kd p0.toNatClampNeg) (lo p0.toNatClampNeg) (hi p0.toNatClampNeg) p1) = (vl p0.toNatClampNeg)) := fun h => c_1 ((lg_cmp_eq _ _).mpr h)
      refine lv_aload_n hx hb dX2_gets_37 rfl (lv_at hl 1 rfl) ?_
      refine lv_iload_n hx hb dX2_gets_38 rfl (lv_at hl 2 rfl) ?_
      refine lv_lload hx hb dX2_gets_39 (lv_at hl 0 rfl) ?_
      have hFc := va_free (wc := (wX cI cJ cZ a kd lo hi vl nd so fr tg gn nr mo ma fa sv sd se sh)) hD hS hA [0, 1, 2, 3, 4, 5, 6, 7, 8, 9, 10, 11] rfl
      refine va_callv (va_runV (As := [.int p0, .long (n_fitted (kd p0.toNatClampNeg) (lo p0.toNatClampNeg) (hi p0.toNatClampNeg) p1)]) (rest := []) ⟨hx, hb, hml, hown, hts⟩ (c_X2_move l dC dI cI cJ cZ a kd lo hi vl nd so fr tg gn nr mo ma fa sv sd se sh p0 (n_fitted (kd p0.toNatClampNeg) (lo p0.toNatClampNeg) (hi p0.toNatClampNeg) p1) hE hn hd s.heap.size) (cwV 2 hts gX2_gets_X2_move rfl rfl rfl (by decide +kernel) ⟨by show 2 + 1 ≤ 5 + (k + 1); omega, by show 8 + (4 + 11) + 49 ≤ 120 + 27 * (k + 1); omega⟩) (fb_m hK hP hD (va_recv hK hP (ci := 1) (q0 := 0) rfl rfl)) rfl rfl hl.1 rfl (lv_room (Nat.le_of_ble_eq_true rfl)) dX2_gets_41 ⟨Nat.zero_le _, Nat.zero_le _⟩) hS (fun q _ h => hFc q h) hFc (fun u t H1 locs ht hvm hw_2 hB hz1 hk1 hS => ?_)
      obtain ⟨kd_2, lo_2, hi_2, vl_2, nd_2, so_2, fr_2, tg_2, gn_2, nr_2, mo_2, ma_2, fa_2, sv_2, sd_2, se_2, sh_2⟩ := u
      rw [x_move_eq] at hw_2
      have hw_2 := hw_2.symm
      simp only [Prod.mk.injEq] at hw_2
      obtain ⟨rfl, rfl, rfl, rfl, rfl, rfl, rfl, rfl, rfl, rfl, rfl, rfl, rfl, rfl, rfl, rfl, rfl⟩ := hw_2
      obtain ⟨hP1, hK1, hD1⟩ := hB
      rw [ht] at hP1
      obtain ⟨hP, hD⟩ := va_join (wr := []) (w1 := (wX cI cJ cZ a kd lo hi (vp_updL vl p0.toNatClampNeg (n_fitted (kd p0.toNatClampNeg) (lo p0.toNatClampNeg) (hi p0.toNatClampNeg) p1)) nd so fr tg gn nr (mo + 1) (ma + 1) fa (if mo = 0 then (k_sv vl sv se sh nd) else sv) (if mo = 0 then (k_sd sd se sh nd) else sd) (if mo = 0 then (k_se se sh) else se) (if mo = 0 then (k_sh sh) else sh))) hP hD [0, 1, 2, 3, 4, 5, 6, 7, 8, 9, 10, 11] [] rfl rfl (by decide) (by decide) hk1 hFc hP1 hD1
      generalize H1 = H at hP hS ⊢
      have hP : va_P (dC, dI) vwCl (wX cI cJ cZ a kd lo hi (vp_updL vl p0.toNatClampNeg (n_fitted (kd p0.toNatClampNeg) (lo p0.toNatClampNeg) (hi p0.toNatClampNeg) p1)) nd so fr tg gn nr (mo + 1) (ma + 1) fa (if mo = 0 then (k_sv vl sv se sh nd) else sv) (if mo = 0 then (k_sd sd se sh nd) else sd) (if mo = 0 then (k_se se sh) else se) (if mo = 0 then (k_sh sh) else sh)) H := hP
      have hD : va_D A (wX cI cJ cZ a kd lo hi (vp_updL vl p0.toNatClampNeg (n_fitted (kd p0.toNatClampNeg) (lo p0.toNatClampNeg) (hi p0.toNatClampNeg) p1)) nd so fr tg gn nr (mo + 1) (ma + 1) fa (if mo = 0 then (k_sv vl sv se sh nd) else sv) (if mo = 0 then (k_sd sd se sh nd) else sd) (if mo = 0 then (k_se se sh) else se) (if mo = 0 then (k_sh sh) else sh)) := hD
      refine lv_iload hx hb dX2_gets_44 (lv_at hl 4 rfl) ?_
      refine lv_bipush (v := 24) hx hb dX2_gets_46 (by decide) ?_
      refine lv_icmp_lt (tgt := 52) hx hb dX2_gets_48 (by decide) (fun c_3 => ?_) (fun c_3 => ?_)
      · skip
        refine lv_iconst (v := 0) hx hb dX2_gets_52 (by decide) ?_
        refine lv_istore (lv' := [(7, .int (0 : Int32)), (5, .long (n_fitted (kd p0.toNatClampNeg) (lo p0.toNatClampNeg) (hi p0.toNatClampNeg) p1)), (0, .ref (a 0)), (1, .int p0), (2, .long p1), (4, .int (nI (24 - (k + 1))))]) hx hb dX2_gets_53 hl (by decide) rfl (fun ls hl => ?_)
        exact gets_loop kd lo hi nd so fr tg nr fa k nr.toNatClampNeg p0 (nI (24 - (k + 1))) p1 (n_fitted (kd p0.toNatClampNeg) (lo p0.toNatClampNeg) (hi p0.toNatClampNeg) p1) (x_gets kd lo hi nd so fr tg nr.toNatClampNeg (k + 1) (vl, gn, mo, ma, sv, sd, se, sh) p0 p1) ⟨hx, hb, hml, hown, hts⟩ hA hK hd htg (nr_nat hnr).1 (nr_nat hnr).2 (by rw [nI_1]; congr 1; omega) (ih (by omega)) ⟨by show 5 + k + 1 ≤ 5 + (k + 1); omega, by show 120 + 27 * k + 27 ≤ 120 + 27 * (k + 1); omega⟩ (fun vl gn mo ma sv sd se sh H locs ls hres hE hP hD hS _ => W.vret hx hb hr (fun t ht hW => ⟨⟨(kd, lo, hi, vl, nd, so, fr, tg, gn, nr, mo, ma, fa, sv, sd, se, sh), rfl, (congrArg (g_tup kd lo hi nd so fr tg nr fa) hres).symm, by rw [ht]; exact hP, va_K.moved hW.alike hK, hD⟩, hS.F ht⟩) hS.2.2 dX2_gets_133) nr.toNatClampNeg 0 _ (vp_updL vl p0.toNatClampNeg (n_fitted (kd p0.toNatClampNeg) (lo p0.toNatClampNeg) (hi p0.toNatClampNeg) p1)) gn (mo + 1) (ma + 1) (if mo = 0 then (k_sv vl sv se sh nd) else sv) (if mo = 0 then (k_sd sd se sh nd) else sd) (if mo = 0 then (k_se se sh) else se) (if mo = 0 then (k_sh sh) else sh) H locs ls (by omega) nI_0.symm (okE_i hE) (x_gets_succ (u := (vl, gn, mo, ma, sv, sd, se, sh)) c_1) hP hD hS (lv_sub hl [0, 1, 2, 3, 4, 5] rfl)
      · skip
        exact absurd (show nI (24 - (k + 1)) < nI 24 from nI_lt (by omega) (by decide)) c_3
    · skip
      have c_1 : (n_fitted (kd p0.toNatClampNeg) (lo p0.toNatClampNeg) (hi p0.toNatClampNeg) p1) = (vl p0.toNatClampNeg) := (lg_cmp_eq _ _).mp c_1
      exact W.vret hx hb hr (fun t ht hW => ⟨⟨(kd, lo, hi, vl, nd, so, fr, tg, gn, nr, mo, ma, fa, sv, sd, se, sh), rfl, (congrArg (g_tup kd lo hi nd so fr tg nr fa) (x_gets_same (u := (vl, gn, mo, ma, sv, sd, se, sh)) c_1)).symm, by rw [ht]; exact hP, va_K.moved hW.alike hK, hD⟩, hS.F ht⟩) hS.2.2 dX2_gets_36
