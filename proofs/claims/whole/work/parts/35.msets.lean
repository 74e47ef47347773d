theorem in_nd {nd : Int32} (h : 0 ≤ nd ∧ nd ≤ 16) (h6 : ¬ nd = 16) : vp_in nd 16 := by
  obtain ⟨k, hk, rfl⟩ := nI_of2 (M := 16) (n := 16) (by decide) (Int32.not_lt.mpr h.1) h.2
  have hk6 : k ≠ 16 := fun q => h6 (by rw [q]; rfl)
  exact vp_in_nI (by omega) (by decide)
theorem in_nr {nr : Int32} (h : 0 ≤ nr ∧ nr ≤ 24) (h6 : ¬ nr = 24) : vp_in nr 24 := by
  obtain ⟨k, hk, rfl⟩ := nI_of2 (M := 24) (n := 24) (by decide) (Int32.not_lt.mpr h.1) h.2
  have hk6 : k ≠ 24 := fun q => h6 (by rw [q]; rfl)
  exact vp_in_nI (by omega) (by decide)
def m_set (kd : Nat → Int32) (vl : Nat → Int64) (lo : Nat → Int64) (hi : Nat → Int64) (nd : Int32) (so : Nat → Int32) (fr : Nat → Int32) (tg : Nat → Int32) (gn : Nat → Int32) (nr : Int32) (kp : Nat → Int64) (ah : Nat → Int64) (kx : Nat → Int32) (st : Int32) (mo : Int32) (ma : Int32) (fa : Int32) (op : Nat → Int32) (nx : Nat → Int32) (p0 : Int32) (p1 : Int64) (op9 : Nat → Int32) (nx9 : Nat → Int32) : Int32 × MS :=
  if (m_isDial nd p0) = 0 then ((-1 : Int32), kd, vl, lo, hi, nd, so, fr, tg, gn, nr, kp, ah, kx, st, mo, ma, (1 : Int32), op9, nx9)
  else if (m_isNumber (kd p0.toNatClampNeg) p1) = 0 then ((-1 : Int32), kd, vl, lo, hi, nd, so, fr, tg, gn, nr, kp, ah, kx, st, mo, ma, (3 : Int32), op9, nx9)
    else ((t_gets kd lo hi so fr tg nr.toNatClampNeg 25 (vl, (clr gn 24), (0 : Int32)) p0 p1).2.2, kd, (t_gets kd lo hi so fr tg nr.toNatClampNeg 25 (vl, (clr gn 24), (0 : Int32)) p0 p1).1, lo, hi, nd, so, fr, tg, (t_gets kd lo hi so fr tg nr.toNatClampNeg 25 (vl, (clr gn 24), (0 : Int32)) p0 p1).2.1, nr, (if (t_gets kd lo hi so fr tg nr.toNatClampNeg 25 (vl, (clr gn 24), (0 : Int32)) p0 p1).2.2 ≤ 0 then kp else (if st = 6 then pst (cpx vl ah 16) (dnL kp 80) (st - 1) 16 else pst (cpx vl ah 16) kp st 16)), (cpx vl ah 16), (if (t_gets kd lo hi so fr tg nr.toNatClampNeg 25 (vl, (clr gn 24), (0 : Int32)) p0 p1).2.2 ≤ 0 then kx else (if st = 6 then upd (dnI kx 5) (st - 1).toNatClampNeg nd else upd kx st.toNatClampNeg nd)), (if (t_gets kd lo hi so fr tg nr.toNatClampNeg 25 (vl, (clr gn 24), (0 : Int32)) p0 p1).2.2 ≤ 0 then st else (if st = 6 then st - 1 + 1 else st + 1)), (t_gets kd lo hi so fr tg nr.toNatClampNeg 25 (vl, (clr gn 24), (0 : Int32)) p0 p1).2.2, (ma + (t_gets kd lo hi so fr tg nr.toNatClampNeg 25 (vl, (clr gn 24), (0 : Int32)) p0 p1).2.2), (0 : Int32), op9, nx9)
set_option maxHeartbeats 4000000 in
set_option maxRecDepth 100000 in
theorem c_X3_set (l : Launch) (dC : Nat → ClassId) (dI : Nat → Nat → Nat) (cI cJ cZ : ClassId) (b : Nat → Nat) (kd : Nat → Int32) (vl : Nat → Int64) (lo : Nat → Int64) (hi : Nat → Int64) (nd : Int32) (so : Nat → Int32) (fr : Nat → Int32) (tg : Nat → Int32) (gn : Nat → Int32) (nr : Int32) (kp : Nat → Int64) (ah : Nat → Int64) (kx : Nat → Int32) (st : Int32) (mo : Int32) (ma : Int32) (fa : Int32) (op : Nat → Int32) (nx : Nat → Int32) (p0 : Int32) (p1 : Int64) (hnr : 0 ≤ nr ∧ nr ≤ 24) (htg : ∀ j, vp_in (tg j) 16) (hst : 0 ≤ st ∧ st ≤ 6) (hn : 0 ≤ nd ∧ nd ≤ 16) (sz : Nat) : Met l yX3_set wsX3_set ({ frames := 8, cells := 0, slots := 0, locals := 193 }) (va_Pc [.ref (b 0), .int p0, .long p1] (fun U => U.heap.size = sz ∧ va_P (dC, dI) vwCl (wM cI cJ cZ b kd vl lo hi nd so fr tg gn nr kp ah kx st mo ma fa op nx) U.heap ∧ va_K (dC, dI) vwCl (tA cI cJ cZ) U ∧ va_D (fun _ => True) (wM cI cJ cZ b kd vl lo hi nd so fr tg gn nr kp ah kx st mo ma fa op nx))) (va_Qi (fun (r : Int32) (u : MS) => ∃ op9 nx9 : Nat → Int32, (r, u) = m_set kd vl lo hi nd so fr tg gn nr kp ah kx st mo ma fa op nx p0 p1 op9 nx9) (at_M dC dI cI cJ cZ (va_A (wM cI cJ cZ b kd vl lo hi nd so fr tg gn nr kp ah kx st mo ma fa op nx) sz) b) (va_A (wM cI cJ cZ b kd vl lo hi nd so fr tg gn nr kp ah kx st mo ma fa op nx) sz)) 0 0 (va_A (wM cI cJ cZ b kd vl lo hi nd so fr tg gn nr kp ah kx st mo ma fa op nx) sz) := by
  refine Met.ofW (cc := cX3_set) (maxL := 4) (ret := (some .int)) (by decide) rfl ?_
  intro p e s m args below meth c s₁ B hml hv
  obtain ⟨rfl, hsz, hP, hK, hD0⟩ := hv
  subst hsz
  have hD := hD0.self (sz := s.heap.size)
  generalize hAe : va_A (wM cI cJ cZ b kd vl lo hi nd so fr tg gn nr kp ah kx st mo ma fa op nx) s.heap.size = A at hD ⊢
  have hA : ∀ q : Nat, s.heap.size ≤ q → A q := fun q h => by rw [← hAe]; exact Or.inr h
  have hS : va_S A s.heap s.heap [] := va_S.rf
  have hP : va_P (dC, dI) vwCl (wM cI cJ cZ b kd vl lo hi nd so fr tg gn nr kp ah kx st mo ma fa op nx) s.heap := hP
  have hx := B.exec
  have hb := B.bytes
  have hr := B.returns
  have hts := atoms_spec (ws := wsX3_set) B.pre
  have hown : s.vm.findClass RX3 = some m.cls := findClass_of_methodNamed B.named
  have hlocks := B.notSynchronized
  have h_inX3 : ∀ w ∈ wsX30, w ∈ wsX3_set := fun _ h => List.mem_cons_of_mem _ (List.mem_append_right _ h)
  have k_0 := hts (.fieldLink RX3 7 "DetentCabinetModel" "kind" "[I") (by decide +kernel)
  have hl := lv_entry ([.ref (b 0), .int p0, .long p1]) (n := 4) (Nat.le_of_ble_eq_true rfl)
  rw [lg_entry_eq]
  generalize (lg_sl ([.ref (b 0), .int p0, .long p1]) ++ List.replicate (4 - (lg_sl ([.ref (b 0), .int p0, .long p1])).length) Slot.unset).toArray = ls at hl ⊢
  have hl : lv_has ls 4 [(0, .ref (b 0)), (1, .int p0), (2, .long p1)] := hl
  refine lv_aload_n hx hb dX3_set_0 rfl (lv_at hl 0 rfl) ?_
  refine lv_iload_n hx hb dX3_set_1 rfl (lv_at hl 1 rfl) ?_
  refine cs_i (W.runV (As := [.int p0]) (rest := []) ⟨hx, hb, hml, hown, hts⟩ (c_X3_isDial l dC dI cI cJ cZ b kd vl lo hi nd so fr tg gn nr kp ah kx st mo ma fa op nx p0 ) (cwV 1 hts gX3_set_X3_isDial rfl rfl rfl (by decide +kernel) ⟨Nat.le_of_ble_eq_true rfl, Nat.le_of_ble_eq_true rfl⟩) (fb_v hK hP (va_recv hK hP (ci := 2) (q0 := 0) rfl rfl)) rfl rfl hl.1 rfl (lv_room (Nat.le_of_ble_eq_true rfl)) dX3_set_2 ⟨Nat.zero_le _, Nat.zero_le _⟩) ?_
  refine lv_if_ne (tgt := 14) hx hb dX3_set_5 (by decide) (fun c_1 => ?_) (fun c_1 => ?_)
  · skip
    refine lv_aload_n hx hb dX3_set_14 rfl (lv_at hl 0 rfl) ?_
    refine lv_aload_n hx hb dX3_set_15 rfl (lv_at hl 0 rfl) ?_
    refine va_get (D := (dC, dI)) (ci := 2) (v := .ref (b 1)) (C := RX3) (T := TX3) (N := 19) hx hb hts h_inX3 hown hK hP 0 rfl rfl 0 (by decide) k_0 (fun _ h9 => h9) rfl dX3_set_16 ?_
    refine lv_iload_n hx hb dX3_set_19 rfl (lv_at hl 1 rfl) ?_
    refine va_iald hx hb hK hP 1 0 rfl rfl (in_dm hn.2 (by assumption)) dX3_set_20 ?_
    refine lv_lload_n hx hb dX3_set_21 rfl (lv_at hl 2 rfl) ?_
    refine cs_i (W.runV (As := [.int (kd p0.toNatClampNeg), .long p1]) (rest := []) ⟨hx, hb, hml, hown, hts⟩ (c_X3_isNumber l dC dI cI cJ cZ b kd vl lo hi nd so fr tg gn nr kp ah kx st mo ma fa op nx (kd p0.toNatClampNeg) p1 ) (cwV 2 hts gX3_set_X3_isNumber rfl rfl rfl (by decide +kernel) ⟨Nat.le_of_ble_eq_true rfl, Nat.le_of_ble_eq_true rfl⟩) (fb_v hK hP (va_recv hK hP (ci := 2) (q0 := 0) rfl rfl)) rfl rfl hl.1 rfl (lv_room (Nat.le_of_ble_eq_true rfl)) dX3_set_22 ⟨Nat.zero_le _, Nat.zero_le _⟩) ?_
    refine lv_if_ne (tgt := 34) hx hb dX3_set_25 (by decide) (fun c_2 => ?_) (fun c_2 => ?_)
    · skip
      refine lv_aload_n hx hb dX3_set_34 rfl (lv_at hl 0 rfl) ?_
      refine lv_iload_n hx hb dX3_set_35 rfl (lv_at hl 1 rfl) ?_
      refine lv_lload_n hx hb dX3_set_36 rfl (lv_at hl 2 rfl) ?_
      have hFc := va_free (wc := (wM cI cJ cZ b kd vl lo hi nd so fr tg gn nr kp ah kx st mo ma fa op nx)) hD hS hA [0, 1, 2, 3, 4, 5, 6, 7, 8, 9, 10, 11, 12, 13] rfl
      refine va_calli (va_runV (As := [.int p0, .long p1]) (rest := []) ⟨hx, hb, hml, hown, hts⟩ (c_X3_call l dC dI cI cJ cZ b kd vl lo hi nd so fr tg gn nr kp ah kx st mo ma fa op nx p0 p1 hnr htg hst (in_dm hn.2 (by assumption)) s.heap.size) (cwV 2 hts gX3_set_X3_call rfl rfl rfl (by decide +kernel) ⟨Nat.le_of_ble_eq_true rfl, Nat.le_of_ble_eq_true rfl⟩) (fb_m hK hP hD (va_recv hK hP (ci := 2) (q0 := 0) rfl rfl)) rfl rfl hl.1 rfl (lv_room (Nat.le_of_ble_eq_true rfl)) dX3_set_37 ⟨Nat.zero_le _, Nat.zero_le _⟩) hS (fun q _ h => hFc q h) hFc (fun r_3 u t H1 locs ht hvm hw_3 hB hz1 hk1 hS => ?_)
      obtain ⟨op9_3, nx9_3, hw_3⟩ := hw_3
      obtain ⟨kd_3, vl_3, lo_3, hi_3, nd_3, so_3, fr_3, tg_3, gn_3, nr_3, kp_3, ah_3, kx_3, st_3, mo_3, ma_3, fa_3, op_3, nx_3⟩ := u
      rw [m_call_eq] at hw_3
      have hw_3 := hw_3.symm
      simp only [Prod.mk.injEq] at hw_3
      obtain ⟨rfl, rfl, rfl, rfl, rfl, rfl, rfl, rfl, rfl, rfl, rfl, rfl, rfl, rfl, rfl, rfl, rfl, rfl, rfl, rfl⟩ := hw_3
      obtain ⟨hP1, hK1, hD1⟩ := hB
      rw [ht] at hP1
      obtain ⟨hP, hD⟩ := va_join (wr := []) (w1 := (wM cI cJ cZ b kd ((t_gets kd lo hi so fr tg nr.toNatClampNeg 25 (vl, (clr gn 24), (0 : Int32)) p0 p1).1) lo hi nd so fr tg ((t_gets kd lo hi so fr tg nr.toNatClampNeg 25 (vl, (clr gn 24), (0 : Int32)) p0 p1).2.1) nr (if (t_gets kd lo hi so fr tg nr.toNatClampNeg 25 (vl, (clr gn 24), (0 : Int32)) p0 p1).2.2 ≤ 0 then kp else (if st = 6 then pst (cpx vl ah 16) (dnL kp 80) (st - 1) 16 else pst (cpx vl ah 16) kp st 16)) (cpx vl ah 16) (if (t_gets kd lo hi so fr tg nr.toNatClampNeg 25 (vl, (clr gn 24), (0 : Int32)) p0 p1).2.2 ≤ 0 then kx else (if st = 6 then upd (dnI kx 5) (st - 1).toNatClampNeg nd else upd kx st.toNatClampNeg nd)) (if (t_gets kd lo hi so fr tg nr.toNatClampNeg 25 (vl, (clr gn 24), (0 : Int32)) p0 p1).2.2 ≤ 0 then st else (if st = 6 then st - 1 + 1 else st + 1)) ((t_gets kd lo hi so fr tg nr.toNatClampNeg 25 (vl, (clr gn 24), (0 : Int32)) p0 p1).2.2) (ma + (t_gets kd lo hi so fr tg nr.toNatClampNeg 25 (vl, (clr gn 24), (0 : Int32)) p0 p1).2.2) (0 : Int32) op9_3 nx9_3)) hP hD [0, 1, 2, 3, 4, 5, 6, 7, 8, 9, 10, 11, 12, 13] [] rfl rfl (by decide) (by decide) hk1 hFc hP1 hD1
      generalize H1 = H at hP hS ⊢
      have hP : va_P (dC, dI) vwCl (wM cI cJ cZ b kd ((t_gets kd lo hi so fr tg nr.toNatClampNeg 25 (vl, (clr gn 24), (0 : Int32)) p0 p1).1) lo hi nd so fr tg ((t_gets kd lo hi so fr tg nr.toNatClampNeg 25 (vl, (clr gn 24), (0 : Int32)) p0 p1).2.1) nr (if (t_gets kd lo hi so fr tg nr.toNatClampNeg 25 (vl, (clr gn 24), (0 : Int32)) p0 p1).2.2 ≤ 0 then kp else (if st = 6 then pst (cpx vl ah 16) (dnL kp 80) (st - 1) 16 else pst (cpx vl ah 16) kp st 16)) (cpx vl ah 16) (if (t_gets kd lo hi so fr tg nr.toNatClampNeg 25 (vl, (clr gn 24), (0 : Int32)) p0 p1).2.2 ≤ 0 then kx else (if st = 6 then upd (dnI kx 5) (st - 1).toNatClampNeg nd else upd kx st.toNatClampNeg nd)) (if (t_gets kd lo hi so fr tg nr.toNatClampNeg 25 (vl, (clr gn 24), (0 : Int32)) p0 p1).2.2 ≤ 0 then st else (if st = 6 then st - 1 + 1 else st + 1)) ((t_gets kd lo hi so fr tg nr.toNatClampNeg 25 (vl, (clr gn 24), (0 : Int32)) p0 p1).2.2) (ma + (t_gets kd lo hi so fr tg nr.toNatClampNeg 25 (vl, (clr gn 24), (0 : Int32)) p0 p1).2.2) (0 : Int32) op9_3 nx9_3) H := hP
      have hD : va_D A (wM cI cJ cZ b kd ((t_gets kd lo hi so fr tg nr.toNatClampNeg 25 (vl, (clr gn 24), (0 : Int32)) p0 p1).1) lo hi nd so fr tg ((t_gets kd lo hi so fr tg nr.toNatClampNeg 25 (vl, (clr gn 24), (0 : Int32)) p0 p1).2.1) nr (if (t_gets kd lo hi so fr tg nr.toNatClampNeg 25 (vl, (clr gn 24), (0 : Int32)) p0 p1).2.2 ≤ 0 then kp else (if st = 6 then pst (cpx vl ah 16) (dnL kp 80) (st - 1) 16 else pst (cpx vl ah 16) kp st 16)) (cpx vl ah 16) (if (t_gets kd lo hi so fr tg nr.toNatClampNeg 25 (vl, (clr gn 24), (0 : Int32)) p0 p1).2.2 ≤ 0 then kx else (if st = 6 then upd (dnI kx 5) (st - 1).toNatClampNeg nd else upd kx st.toNatClampNeg nd)) (if (t_gets kd lo hi so fr tg nr.toNatClampNeg 25 (vl, (clr gn 24), (0 : Int32)) p0 p1).2.2 ≤ 0 then st else (if st = 6 then st - 1 + 1 else st + 1)) ((t_gets kd lo hi so fr tg nr.toNatClampNeg 25 (vl, (clr gn 24), (0 : Int32)) p0 p1).2.2) (ma + (t_gets kd lo hi so fr tg nr.toNatClampNeg 25 (vl, (clr gn 24), (0 : Int32)) p0 p1).2.2) (0 : Int32) op9_3 nx9_3) := hD
      exact W.iret (v := (t_gets kd lo hi so fr tg nr.toNatClampNeg 25 (vl, (clr gn 24), (0 : Int32)) p0 p1).2.2) hx hb hr (fun t ht hW => ⟨⟨(t_gets kd lo hi so fr tg nr.toNatClampNeg 25 (vl, (clr gn 24), (0 : Int32)) p0 p1).2.2, (kd, (t_gets kd lo hi so fr tg nr.toNatClampNeg 25 (vl, (clr gn 24), (0 : Int32)) p0 p1).1, lo, hi, nd, so, fr, tg, (t_gets kd lo hi so fr tg nr.toNatClampNeg 25 (vl, (clr gn 24), (0 : Int32)) p0 p1).2.1, nr, (if (t_gets kd lo hi so fr tg nr.toNatClampNeg 25 (vl, (clr gn 24), (0 : Int32)) p0 p1).2.2 ≤ 0 then kp else (if st = 6 then pst (cpx vl ah 16) (dnL kp 80) (st - 1) 16 else pst (cpx vl ah 16) kp st 16)), (cpx vl ah 16), (if (t_gets kd lo hi so fr tg nr.toNatClampNeg 25 (vl, (clr gn 24), (0 : Int32)) p0 p1).2.2 ≤ 0 then kx else (if st = 6 then upd (dnI kx 5) (st - 1).toNatClampNeg nd else upd kx st.toNatClampNeg nd)), (if (t_gets kd lo hi so fr tg nr.toNatClampNeg 25 (vl, (clr gn 24), (0 : Int32)) p0 p1).2.2 ≤ 0 then st else (if st = 6 then st - 1 + 1 else st + 1)), (t_gets kd lo hi so fr tg nr.toNatClampNeg 25 (vl, (clr gn 24), (0 : Int32)) p0 p1).2.2, (ma + (t_gets kd lo hi so fr tg nr.toNatClampNeg 25 (vl, (clr gn 24), (0 : Int32)) p0 p1).2.2), (0 : Int32), op9_3, nx9_3), rfl, ⟨op9_3, nx9_3, (by unfold m_set; rw [if_neg c_1, if_neg c_2])⟩, by rw [ht]; exact hP, va_K.moved hW.alike hK, hD⟩, hS.F ht⟩) hS.2.2 dX3_set_40
    · skip
      refine lv_aload_n hx hb dX3_set_28 rfl (lv_at hl 0 rfl) ?_
      refine lv_iconst (v := 3) hx hb dX3_set_29 (by decide) ?_
      have hFc := va_free (wc := (wM cI cJ cZ b kd vl lo hi nd so fr tg gn nr kp ah kx st mo ma fa op nx)) hD hS hA [0, 1, 2, 3, 4, 5, 6, 7, 8, 9, 10, 11, 12, 13] rfl
      refine va_calli (va_runV (As := [.int (3 : Int32)]) (rest := []) ⟨hx, hb, hml, hown, hts⟩ (c_X3_refused l dC dI cI cJ cZ b kd vl lo hi nd so fr tg gn nr kp ah kx st mo ma fa op nx (3 : Int32)  s.heap.size) (cwV 1 hts gX3_set_X3_refused rfl rfl rfl (by decide +kernel) ⟨Nat.le_of_ble_eq_true rfl, Nat.le_of_ble_eq_true rfl⟩) (fb_m hK hP hD (va_recv hK hP (ci := 2) (q0 := 0) rfl rfl)) rfl rfl hl.1 rfl (lv_room (Nat.le_of_ble_eq_true rfl)) dX3_set_30 ⟨Nat.zero_le _, Nat.zero_le _⟩) hS (fun q _ h => hFc q h) hFc (fun r_4 u t H1 locs ht hvm hw_4 hB hz1 hk1 hS => ?_)
      obtain ⟨kd_4, vl_4, lo_4, hi_4, nd_4, so_4, fr_4, tg_4, gn_4, nr_4, kp_4, ah_4, kx_4, st_4, mo_4, ma_4, fa_4, op_4, nx_4⟩ := u
      rw [m_refused_eq] at hw_4
      have hw_4 := hw_4.symm
      simp only [Prod.mk.injEq] at hw_4
      obtain ⟨rfl, rfl, rfl, rfl, rfl, rfl, rfl, rfl, rfl, rfl, rfl, rfl, rfl, rfl, rfl, rfl, rfl, rfl, rfl, rfl⟩ := hw_4
      obtain ⟨hP1, hK1, hD1⟩ := hB
      rw [ht] at hP1
      obtain ⟨hP, hD⟩ := va_join (wr := []) (w1 := (wM cI cJ cZ b kd vl lo hi nd so fr tg gn nr kp ah kx st mo ma (3 : Int32) op nx)) hP hD [0, 1, 2, 3, 4, 5, 6, 7, 8, 9, 10, 11, 12, 13] [] rfl rfl (by decide) (by decide) hk1 hFc hP1 hD1
      generalize H1 = H at hP hS ⊢
      have hP : va_P (dC, dI) vwCl (wM cI cJ cZ b kd vl lo hi nd so fr tg gn nr kp ah kx st mo ma (3 : Int32) op nx) H := hP
      have hD : va_D A (wM cI cJ cZ b kd vl lo hi nd so fr tg gn nr kp ah kx st mo ma (3 : Int32) op nx) := hD
      exact W.iret (v := (-1 : Int32)) hx hb hr (fun t ht hW => ⟨⟨(-1 : Int32), (kd, vl, lo, hi, nd, so, fr, tg, gn, nr, kp, ah, kx, st, mo, ma, (3 : Int32), op, nx), rfl, ⟨op, nx, (by unfold m_set; rw [if_neg c_1, if_pos c_2])⟩, by rw [ht]; exact hP, va_K.moved hW.alike hK, hD⟩, hS.F ht⟩) hS.2.2 dX3_set_33
  · skip
    refine lv_aload_n hx hb dX3_set_8 rfl (lv_at hl 0 rfl) ?_
    refine lv_iconst (v := 1) hx hb dX3_set_9 (by decide) ?_
    have hFc := va_free (wc := (wM cI cJ cZ b kd vl lo hi nd so fr tg gn nr kp ah kx st mo ma fa op nx)) hD hS hA [0, 1, 2, 3, 4, 5, 6, 7, 8, 9, 10, 11, 12, 13] rfl
    refine va_calli (va_runV (As := [.int (1 : Int32)]) (rest := []) ⟨hx, hb, hml, hown, hts⟩ (c_X3_refused l dC dI cI cJ cZ b kd vl lo hi nd so fr tg gn nr kp ah kx st mo ma fa op nx (1 : Int32)  s.heap.size) (cwV 1 hts gX3_set_X3_refused rfl rfl rfl (by decide +kernel) ⟨Nat.le_of_ble_eq_true rfl, Nat.le_of_ble_eq_true rfl⟩) (fb_m hK hP hD (va_recv hK hP (ci := 2) (q0 := 0) rfl rfl)) rfl rfl hl.1 rfl (lv_room (Nat.le_of_ble_eq_true rfl)) dX3_set_10 ⟨Nat.zero_le _, Nat.zero_le _⟩) hS (fun q _ h => hFc q h) hFc (fun r_5 u t H1 locs ht hvm hw_5 hB hz1 hk1 hS => ?_)
    obtain ⟨kd_5, vl_5, lo_5, hi_5, nd_5, so_5, fr_5, tg_5, gn_5, nr_5, kp_5, ah_5, kx_5, st_5, mo_5, ma_5, fa_5, op_5, nx_5⟩ := u
    rw [m_refused_eq] at hw_5
    have hw_5 := hw_5.symm
    simp only [Prod.mk.injEq] at hw_5
    obtain ⟨rfl, rfl, rfl, rfl, rfl, rfl, rfl, rfl, rfl, rfl, rfl, rfl, rfl, rfl, rfl, rfl, rfl, rfl, rfl, rfl⟩ := hw_5
    obtain ⟨hP1, hK1, hD1⟩ := hB
    rw [ht] at hP1
    obtain ⟨hP, hD⟩ := va_join (wr := []) (w1 := (wM cI cJ cZ b kd vl lo hi nd so fr tg gn nr kp ah kx st mo ma (1 : Int32) op nx)) hP hD [0, 1, 2, 3, 4, 5, 6, 7, 8, 9, 10, 11, 12, 13] [] rfl rfl (by decide) (by decide) hk1 hFc hP1 hD1
    generalize H1 = H at hP hS ⊢
    have hP : va_P (dC, dI) vwCl (wM cI cJ cZ b kd vl lo hi nd so fr tg gn nr kp ah kx st mo ma (1 : Int32) op nx) H := hP
    have hD : va_D A (wM cI cJ cZ b kd vl lo hi nd so fr tg gn nr kp ah kx st mo ma (1 : Int32) op nx) := hD
    exact W.iret (v := (-1 : Int32)) hx hb hr (fun t ht hW => ⟨⟨(-1 : Int32), (kd, vl, lo, hi, nd, so, fr, tg, gn, nr, kp, ah, kx, st, mo, ma, (1 : Int32), op, nx), rfl, ⟨op, nx, (by unfold m_set; rw [if_pos c_1])⟩, by rw [ht]; exact hP, va_K.moved hW.alike hK, hD⟩, hS.F ht⟩) hS.2.2 dX3_set_13
def m_turn (kd : Nat → Int32) (vl : Nat → Int64) (lo : Nat → Int64) (hi : Nat → Int64) (nd : Int32) (so : Nat → Int32) (fr : Nat → Int32) (tg : Nat → Int32) (gn : Nat → Int32) (nr : Int32) (kp : Nat → Int64) (ah : Nat → Int64) (kx : Nat → Int32) (st : Int32) (mo : Int32) (ma : Int32) (fa : Int32) (op : Nat → Int32) (nx : Nat → Int32) (p0 : Int32) (p1 : Int32) (op9 : Nat → Int32) (nx9 : Nat → Int32) : Int32 × MS :=
  if (m_isDial nd p0) = 0 then ((-1 : Int32), kd, vl, lo, hi, nd, so, fr, tg, gn, nr, kp, ah, kx, st, mo, ma, (1 : Int32), op9, nx9)
  else if p1 < 0 then ((-1 : Int32), kd, vl, lo, hi, nd, so, fr, tg, gn, nr, kp, ah, kx, st, mo, ma, (2 : Int32), op9, nx9)
    else if (4 : Int32) < p1 then ((-1 : Int32), kd, vl, lo, hi, nd, so, fr, tg, gn, nr, kp, ah, kx, st, mo, ma, (2 : Int32), op9, nx9)
      else if p1 ≤ 0 then ((t_gets kd lo hi so fr tg nr.toNatClampNeg 25 (vl, (clr gn 24), (0 : Int32)) p0 (m_turned (kd p0.toNatClampNeg) (vl p0.toNatClampNeg) p1)).2.2, kd, (t_gets kd lo hi so fr tg nr.toNatClampNeg 25 (vl, (clr gn 24), (0 : Int32)) p0 (m_turned (kd p0.toNatClampNeg) (vl p0.toNatClampNeg) p1)).1, lo, hi, nd, so, fr, tg, (t_gets kd lo hi so fr tg nr.toNatClampNeg 25 (vl, (clr gn 24), (0 : Int32)) p0 (m_turned (kd p0.toNatClampNeg) (vl p0.toNatClampNeg) p1)).2.1, nr, (if (t_gets kd lo hi so fr tg nr.toNatClampNeg 25 (vl, (clr gn 24), (0 : Int32)) p0 (m_turned (kd p0.toNatClampNeg) (vl p0.toNatClampNeg) p1)).2.2 ≤ 0 then kp else (if st = 6 then pst (cpx vl ah 16) (dnL kp 80) (st - 1) 16 else pst (cpx vl ah 16) kp st 16)), (cpx vl ah 16), (if (t_gets kd lo hi so fr tg nr.toNatClampNeg 25 (vl, (clr gn 24), (0 : Int32)) p0 (m_turned (kd p0.toNatClampNeg) (vl p0.toNatClampNeg) p1)).2.2 ≤ 0 then kx else (if st = 6 then upd (dnI kx 5) (st - 1).toNatClampNeg nd else upd kx st.toNatClampNeg nd)), (if (t_gets kd lo hi so fr tg nr.toNatClampNeg 25 (vl, (clr gn 24), (0 : Int32)) p0 (m_turned (kd p0.toNatClampNeg) (vl p0.toNatClampNeg) p1)).2.2 ≤ 0 then st else (if st = 6 then st - 1 + 1 else st + 1)), (t_gets kd lo hi so fr tg nr.toNatClampNeg 25 (vl, (clr gn 24), (0 : Int32)) p0 (m_turned (kd p0.toNatClampNeg) (vl p0.toNatClampNeg) p1)).2.2, (ma + (t_gets kd lo hi so fr tg nr.toNatClampNeg 25 (vl, (clr gn 24), (0 : Int32)) p0 (m_turned (kd p0.toNatClampNeg) (vl p0.toNatClampNeg) p1)).2.2), (0 : Int32), op9, nx9)
        else if (m_isReal (kd p0.toNatClampNeg)) = 0 then ((-1 : Int32), kd, vl, lo, hi, nd, so, fr, tg, gn, nr, kp, ah, kx, st, mo, ma, (2 : Int32), op9, nx9)
          else ((t_gets kd lo hi so fr tg nr.toNatClampNeg 25 (vl, (clr gn 24), (0 : Int32)) p0 (m_turned (kd p0.toNatClampNeg) (vl p0.toNatClampNeg) p1)).2.2, kd, (t_gets kd lo hi so fr tg nr.toNatClampNeg 25 (vl, (clr gn 24), (0 : Int32)) p0 (m_turned (kd p0.toNatClampNeg) (vl p0.toNatClampNeg) p1)).1, lo, hi, nd, so, fr, tg, (t_gets kd lo hi so fr tg nr.toNatClampNeg 25 (vl, (clr gn 24), (0 : Int32)) p0 (m_turned (kd p0.toNatClampNeg) (vl p0.toNatClampNeg) p1)).2.1, nr, (if (t_gets kd lo hi so fr tg nr.toNatClampNeg 25 (vl, (clr gn 24), (0 : Int32)) p0 (m_turned (kd p0.toNatClampNeg) (vl p0.toNatClampNeg) p1)).2.2 ≤ 0 then kp else (if st = 6 then pst (cpx vl ah 16) (dnL kp 80) (st - 1) 16 else pst (cpx vl ah 16) kp st 16)), (cpx vl ah 16), (if (t_gets kd lo hi so fr tg nr.toNatClampNeg 25 (vl, (clr gn 24), (0 : Int32)) p0 (m_turned (kd p0.toNatClampNeg) (vl p0.toNatClampNeg) p1)).2.2 ≤ 0 then kx else (if st = 6 then upd (dnI kx 5) (st - 1).toNatClampNeg nd else upd kx st.toNatClampNeg nd)), (if (t_gets kd lo hi so fr tg nr.toNatClampNeg 25 (vl, (clr gn 24), (0 : Int32)) p0 (m_turned (kd p0.toNatClampNeg) (vl p0.toNatClampNeg) p1)).2.2 ≤ 0 then st else (if st = 6 then st - 1 + 1 else st + 1)), (t_gets kd lo hi so fr tg nr.toNatClampNeg 25 (vl, (clr gn 24), (0 : Int32)) p0 (m_turned (kd p0.toNatClampNeg) (vl p0.toNatClampNeg) p1)).2.2, (ma + (t_gets kd lo hi so fr tg nr.toNatClampNeg 25 (vl, (clr gn 24), (0 : Int32)) p0 (m_turned (kd p0.toNatClampNeg) (vl p0.toNatClampNeg) p1)).2.2), (0 : Int32), op9, nx9)
set_option maxHeartbeats 4000000 in
set_option maxRecDepth 100000 in
theorem c_X3_turn (l : Launch) (dC : Nat → ClassId) (dI : Nat → Nat → Nat) (cI cJ cZ : ClassId) (b : Nat → Nat) (kd : Nat → Int32) (vl : Nat → Int64) (lo : Nat → Int64) (hi : Nat → Int64) (nd : Int32) (so : Nat → Int32) (fr : Nat → Int32) (tg : Nat → Int32) (gn : Nat → Int32) (nr : Int32) (kp : Nat → Int64) (ah : Nat → Int64) (kx : Nat → Int32) (st : Int32) (mo : Int32) (ma : Int32) (fa : Int32) (op : Nat → Int32) (nx : Nat → Int32) (p0 : Int32) (p1 : Int32) (hnr : 0 ≤ nr ∧ nr ≤ 24) (htg : ∀ j, vp_in (tg j) 16) (hst : 0 ≤ st ∧ st ≤ 6) (hn : 0 ≤ nd ∧ nd ≤ 16) (sz : Nat) : Met l yX3_turn wsX3_turn ({ frames := 8, cells := 0, slots := 0, locals := 193 }) (va_Pc [.ref (b 0), .int p0, .int p1] (fun U => U.heap.size = sz ∧ va_P (dC, dI) vwCl (wM cI cJ cZ b kd vl lo hi nd so fr tg gn nr kp ah kx st mo ma fa op nx) U.heap ∧ va_K (dC, dI) vwCl (tA cI cJ cZ) U ∧ va_D (fun _ => True) (wM cI cJ cZ b kd vl lo hi nd so fr tg gn nr kp ah kx st mo ma fa op nx))) (va_Qi (fun (r : Int32) (u : MS) => ∃ op9 nx9 : Nat → Int32, (r, u) = m_turn kd vl lo hi nd so fr tg gn nr kp ah kx st mo ma fa op nx p0 p1 op9 nx9) (at_M dC dI cI cJ cZ (va_A (wM cI cJ cZ b kd vl lo hi nd so fr tg gn nr kp ah kx st mo ma fa op nx) sz) b) (va_A (wM cI cJ cZ b kd vl lo hi nd so fr tg gn nr kp ah kx st mo ma fa op nx) sz)) 0 0 (va_A (wM cI cJ cZ b kd vl lo hi nd so fr tg gn nr kp ah kx st mo ma fa op nx) sz) := by
  refine Met.ofW (cc := cX3_turn) (maxL := 3) (ret := (some .int)) (by decide) rfl ?_
  intro p e s m args below meth c s₁ B hml hv
  obtain ⟨rfl, hsz, hP, hK, hD0⟩ := hv
  subst hsz
  have hD := hD0.self (sz := s.heap.size)
  generalize hAe : va_A (wM cI cJ cZ b kd vl lo hi nd so fr tg gn nr kp ah kx st mo ma fa op nx) s.heap.size = A at hD ⊢
  have hA : ∀ q : Nat, s.heap.size ≤ q → A q := fun q h => by rw [← hAe]; exact Or.inr h
  have hS : va_S A s.heap s.heap [] := va_S.rf
  have hP : va_P (dC, dI) vwCl (wM cI cJ cZ b kd vl lo hi nd so fr tg gn nr kp ah kx st mo ma fa op nx) s.heap := hP
  have hx := B.exec
  have hb := B.bytes
  have hr := B.returns
  have hts := atoms_spec (ws := wsX3_turn) B.pre
  have hown : s.vm.findClass RX3 = some m.cls := findClass_of_methodNamed B.named
  have hlocks := B.notSynchronized
  have h_inX3 : ∀ w ∈ wsX30, w ∈ wsX3_turn := fun _ h => List.mem_cons_of_mem _ (List.mem_append_right _ h)
  have k_0 := hts (.fieldLink RX3 7 "DetentCabinetModel" "kind" "[I") (by decide +kernel)
  have k_1 := hts (.fieldLink RX3 13 "DetentCabinetModel" "value" "[J") (by decide +kernel)
  have hl := lv_entry ([.ref (b 0), .int p0, .int p1]) (n := 3) (Nat.le_of_ble_eq_true rfl)
  rw [lg_entry_eq]
  generalize (lg_sl ([.ref (b 0), .int p0, .int p1]) ++ List.replicate (3 - (lg_sl ([.ref (b 0), .int p0, .int p1])).length) Slot.unset).toArray = ls at hl ⊢
  have hl : lv_has ls 3 [(0, .ref (b 0)), (1, .int p0), (2, .int p1)] := hl
  refine lv_aload_n hx hb dX3_turn_0 rfl (lv_at hl 0 rfl) ?_
  refine lv_iload_n hx hb dX3_turn_1 rfl (lv_at hl 1 rfl) ?_
  refine cs_i (W.runV (As := [.int p0]) (rest := []) ⟨hx, hb, hml, hown, hts⟩ (c_X3_isDial l dC dI cI cJ cZ b kd vl lo hi nd so fr tg gn nr kp ah kx st mo ma fa op nx p0 ) (cwV 1 hts gX3_turn_X3_isDial rfl rfl rfl (by decide +kernel) ⟨Nat.le_of_ble_eq_true rfl, Nat.le_of_ble_eq_true rfl⟩) (fb_v hK hP (va_recv hK hP (ci := 2) (q0 := 0) rfl rfl)) rfl rfl hl.1 rfl (lv_room (Nat.le_of_ble_eq_true rfl)) dX3_turn_2 ⟨Nat.zero_le _, Nat.zero_le _⟩) ?_
  refine lv_if_ne (tgt := 14) hx hb dX3_turn_5 (by decide) (fun c_1 => ?_) (fun c_1 => ?_)
  · skip
    refine lv_iload_n hx hb dX3_turn_14 rfl (lv_at hl 2 rfl) ?_
    refine lv_if_lt (tgt := 40) hx hb dX3_turn_15 (by decide) (fun c_2 => ?_) (fun c_2 => ?_)
    · skip
      refine lv_aload_n hx hb dX3_turn_40 rfl (lv_at hl 0 rfl) ?_
      refine lv_iconst (v := 2) hx hb dX3_turn_41 (by decide) ?_
      have hFc := va_free (wc := (wM cI cJ cZ b kd vl lo hi nd so fr tg gn nr kp ah kx st mo ma fa op nx)) hD hS hA [0, 1, 2, 3, 4, 5, 6, 7, 8, 9, 10, 11, 12, 13] rfl
      refine va_calli (va_runV (As := [.int (2 : Int32)]) (rest := []) ⟨hx, hb, hml, hown, hts⟩ (c_X3_refused l dC dI cI cJ cZ b kd vl lo hi nd so fr tg gn nr kp ah kx st mo ma fa op nx (2 : Int32)  s.heap.size) (cwV 1 hts gX3_turn_X3_refused rfl rfl rfl (by decide +kernel) ⟨Nat.le_of_ble_eq_true rfl, Nat.le_of_ble_eq_true rfl⟩) (fb_m hK hP hD (va_recv hK hP (ci := 2) (q0 := 0) rfl rfl)) rfl rfl hl.1 rfl (lv_room (Nat.le_of_ble_eq_true rfl)) dX3_turn_42 ⟨Nat.zero_le _, Nat.zero_le _⟩) hS (fun q _ h => hFc q h) hFc (fun r_3 u t H1 locs ht hvm hw_3 hB hz1 hk1 hS => ?_)
      obtain ⟨kd_3, vl_3, lo_3, hi_3, nd_3, so_3, fr_3, tg_3, gn_3, nr_3, kp_3, ah_3, kx_3, st_3, mo_3, ma_3, fa_3, op_3, nx_3⟩ := u
      rw [m_refused_eq] at hw_3
      have hw_3 := hw_3.symm
      simp only [Prod.mk.injEq] at hw_3
      obtain ⟨rfl, rfl, rfl, rfl, rfl, rfl, rfl, rfl, rfl, rfl, rfl, rfl, rfl, rfl, rfl, rfl, rfl, rfl, rfl, rfl⟩ := hw_3
      obtain ⟨hP1, hK1, hD1⟩ := hB
      rw [ht] at hP1
      obtain ⟨hP, hD⟩ := va_join (wr := []) (w1 := (wM cI cJ cZ b kd vl lo hi nd so fr tg gn nr kp ah kx st mo ma (2 : Int32) op nx)) hP hD [0, 1, 2, 3, 4, 5, 6, 7, 8, 9, 10, 11, 12, 13] [] rfl rfl (by decide) (by decide) hk1 hFc hP1 hD1
      generalize H1 = H at hP hS ⊢
      have hP : va_P (dC, dI) vwCl (wM cI cJ cZ b kd vl lo hi nd so fr tg gn nr kp ah kx st mo ma (2 : Int32) op nx) H := hP
      have hD : va_D A (wM cI cJ cZ b kd vl lo hi nd so fr tg gn nr kp ah kx st mo ma (2 : Int32) op nx) := hD
      exact W.iret (v := (-1 : Int32)) hx hb hr (fun t ht hW => ⟨⟨(-1 : Int32), (kd, vl, lo, hi, nd, so, fr, tg, gn, nr, kp, ah, kx, st, mo, ma, (2 : Int32), op, nx), rfl, ⟨op, nx, (by unfold m_turn; rw [if_neg c_1, if_pos c_2])⟩, by rw [ht]; exact hP, va_K.moved hW.alike hK, hD⟩, hS.F ht⟩) hS.2.2 dX3_turn_45
    · skip
      refine lv_iload_n hx hb dX3_turn_18 rfl (lv_at hl 2 rfl) ?_
      refine lv_iconst (v := 4) hx hb dX3_turn_19 (by decide) ?_
      refine lv_icmp_gt (tgt := 40) hx hb dX3_turn_20 (by decide) (fun c_4 => ?_) (fun c_4 => ?_)
      · skip
        refine lv_aload_n hx hb dX3_turn_40 rfl (lv_at hl 0 rfl) ?_
        refine lv_iconst (v := 2) hx hb dX3_turn_41 (by decide) ?_
        have hFc := va_free (wc := (wM cI cJ cZ b kd vl lo hi nd so fr tg gn nr kp ah kx st mo ma fa op nx)) hD hS hA [0, 1, 2, 3, 4, 5, 6, 7, 8, 9, 10, 11, 12, 13] rfl
        refine va_calli (va_runV (As := [.int (2 : Int32)]) (rest := []) ⟨hx, hb, hml, hown, hts⟩ (c_X3_refused l dC dI cI cJ cZ b kd vl lo hi nd so fr tg gn nr kp ah kx st mo ma fa op nx (2 : Int32)  s.heap.size) (cwV 1 hts gX3_turn_X3_refused rfl rfl rfl (by decide +kernel) ⟨Nat.le_of_ble_eq_true rfl, Nat.le_of_ble_eq_true rfl⟩) (fb_m hK hP hD (va_recv hK hP (ci := 2) (q0 := 0) rfl rfl)) rfl rfl hl.1 rfl (lv_room (Nat.le_of_ble_eq_true rfl)) dX3_turn_42 ⟨Nat.zero_le _, Nat.zero_le _⟩) hS (fun q _ h => hFc q h) hFc (fun r_5 u t H1 locs ht hvm hw_5 hB hz1 hk1 hS => ?_)
        obtain ⟨kd_5, vl_5, lo_5, hi_5, nd_5, so_5, fr_5, tg_5, gn_5, nr_5, kp_5, ah_5, kx_5, st_5, mo_5, ma_5, fa_5, op_5, nx_5⟩ := u
        rw [m_refused_eq] at hw_5
        have hw_5 := hw_5.symm
        simp only [Prod.mk.injEq] at hw_5
        obtain ⟨rfl, rfl, rfl, rfl, rfl, rfl, rfl, rfl, rfl, rfl, rfl, rfl, rfl, rfl, rfl, rfl, rfl, rfl, rfl, rfl⟩ := hw_5
        obtain ⟨hP1, hK1, hD1⟩ := hB
        rw [ht] at hP1
        obtain ⟨hP, hD⟩ := va_join (wr := []) (w1 := (wM cI cJ cZ b kd vl lo hi nd so fr tg gn nr kp ah kx st mo ma (2 : Int32) op nx)) hP hD [0, 1, 2, 3, 4, 5, 6, 7, 8, 9, 10, 11, 12, 13] [] rfl rfl (by decide) (by decide) hk1 hFc hP1 hD1
        generalize H1 = H at hP hS ⊢
        have hP : va_P (dC, dI) vwCl (wM cI cJ cZ b kd vl lo hi nd so fr tg gn nr kp ah kx st mo ma (2 : Int32) op nx) H := hP
        have hD : va_D A (wM cI cJ cZ b kd vl lo hi nd so fr tg gn nr kp ah kx st mo ma (2 : Int32) op nx) := hD
        exact W.iret (v := (-1 : Int32)) hx hb hr (fun t ht hW => ⟨⟨(-1 : Int32), (kd, vl, lo, hi, nd, so, fr, tg, gn, nr, kp, ah, kx, st, mo, ma, (2 : Int32), op, nx), rfl, ⟨op, nx, (by unfold m_turn; rw [if_neg c_1, if_neg c_2, if_pos c_4])⟩, by rw [ht]; exact hP, va_K.moved hW.alike hK, hD⟩, hS.F ht⟩) hS.2.2 dX3_turn_45
      · skip
        refine lv_iload_n hx hb dX3_turn_23 rfl (lv_at hl 2 rfl) ?_
        refine lv_if_le (tgt := 46) hx hb dX3_turn_24 (by decide) (fun c_6 => ?_) (fun c_6 => ?_)
        · skip
          refine lv_aload_n hx hb dX3_turn_46 rfl (lv_at hl 0 rfl) ?_
          refine lv_iload_n hx hb dX3_turn_47 rfl (lv_at hl 1 rfl) ?_
          refine lv_aload_n hx hb dX3_turn_48 rfl (lv_at hl 0 rfl) ?_
          refine lv_aload_n hx hb dX3_turn_49 rfl (lv_at hl 0 rfl) ?_
          refine va_get (D := (dC, dI)) (ci := 2) (v := .ref (b 1)) (C := RX3) (T := TX3) (N := 19) hx hb hts h_inX3 hown hK hP 0 rfl rfl 0 (by decide) k_0 (fun _ h9 => h9) rfl dX3_turn_50 ?_
          refine lv_iload_n hx hb dX3_turn_53 rfl (lv_at hl 1 rfl) ?_
          refine va_iald hx hb hK hP 1 0 rfl rfl (in_dm hn.2 (by assumption)) dX3_turn_54 ?_
          refine lv_aload_n hx hb dX3_turn_55 rfl (lv_at hl 0 rfl) ?_
          refine va_get (D := (dC, dI)) (ci := 2) (v := .ref (b 2)) (C := RX3) (T := TX3) (N := 19) hx hb hts h_inX3 hown hK hP 0 rfl rfl 1 (by decide) k_1 (fun _ h9 => h9) rfl dX3_turn_56 ?_
          refine lv_iload_n hx hb dX3_turn_59 rfl (lv_at hl 1 rfl) ?_
          refine va_lald hx hb hK hP 2 1 rfl rfl (in_dm hn.2 (by assumption)) dX3_turn_60 ?_
          refine lv_iload_n hx hb dX3_turn_61 rfl (lv_at hl 2 rfl) ?_
          refine cs_l (W.runV (As := [.int (kd p0.toNatClampNeg), .long (vl p0.toNatClampNeg), .int p1]) (rest := [.int p0, .ref (b 0)]) ⟨hx, hb, hml, hown, hts⟩ (c_X3_turned l dC dI cI cJ cZ b kd vl lo hi nd so fr tg gn nr kp ah kx st mo ma fa op nx (kd p0.toNatClampNeg) (vl p0.toNatClampNeg) p1 ) (cwV 3 hts gX3_turn_X3_turned rfl rfl rfl (by decide +kernel) ⟨Nat.le_of_ble_eq_true rfl, Nat.le_of_ble_eq_true rfl⟩) (fb_v hK hP (va_recv hK hP (ci := 2) (q0 := 0) rfl rfl)) rfl rfl hl.1 rfl (lv_room (Nat.le_of_ble_eq_true rfl)) dX3_turn_62 ⟨Nat.zero_le _, Nat.zero_le _⟩) ?_
          have hFc := va_free (wc := (wM cI cJ cZ b kd vl lo hi nd so fr tg gn nr kp ah kx st mo ma fa op nx)) hD hS hA [0, 1, 2, 3, 4, 5, 6, 7, 8, 9, 10, 11, 12, 13] rfl
          refine va_calli (va_runV (As := [.int p0, .long (m_turned (kd p0.toNatClampNeg) (vl p0.toNatClampNeg) p1)]) (rest := []) ⟨hx, hb, hml, hown, hts⟩ (c_X3_call l dC dI cI cJ cZ b kd vl lo hi nd so fr tg gn nr kp ah kx st mo ma fa op nx p0 (m_turned (kd p0.toNatClampNeg) (vl p0.toNatClampNeg) p1) hnr htg hst (in_dm hn.2 (by assumption)) s.heap.size) (cwV 2 hts gX3_turn_X3_call rfl rfl rfl (by decide +kernel) ⟨Nat.le_of_ble_eq_true rfl, Nat.le_of_ble_eq_true rfl⟩) (fb_m hK hP hD (va_recv hK hP (ci := 2) (q0 := 0) rfl rfl)) rfl rfl hl.1 rfl (lv_room (Nat.le_of_ble_eq_true rfl)) dX3_turn_65 ⟨Nat.zero_le _, Nat.zero_le _⟩) hS (fun q _ h => hFc q h) hFc (fun r_7 u t H1 locs ht hvm hw_7 hB hz1 hk1 hS => ?_)
          obtain ⟨op9_7, nx9_7, hw_7⟩ := hw_7
          obtain ⟨kd_7, vl_7, lo_7, hi_7, nd_7, so_7, fr_7, tg_7, gn_7, nr_7, kp_7, ah_7, kx_7, st_7, mo_7, ma_7, fa_7, op_7, nx_7⟩ := u
          rw [m_call_eq] at hw_7
          have hw_7 := hw_7.symm
          simp only [Prod.mk.injEq] at hw_7
          obtain ⟨rfl, rfl, rfl, rfl, rfl, rfl, rfl, rfl, rfl, rfl, rfl, rfl, rfl, rfl, rfl, rfl, rfl, rfl, rfl, rfl⟩ := hw_7
          obtain ⟨hP1, hK1, hD1⟩ := hB
          rw [ht] at hP1
          obtain ⟨hP, hD⟩ := va_join (wr := []) (w1 := (wM cI cJ cZ b kd ((t_gets kd lo hi so fr tg nr.toNatClampNeg 25 (vl, (clr gn 24), (0 : Int32)) p0 (m_turned (kd p0.toNatClampNeg) (vl p0.toNatClampNeg) p1)).1) lo hi nd so fr tg ((t_gets kd lo hi so fr tg nr.toNatClampNeg 25 (vl, (clr gn 24), (0 : Int32)) p0 (m_turned (kd p0.toNatClampNeg) (vl p0.toNatClampNeg) p1)).2.1) nr (if (t_gets kd lo hi so fr tg nr.toNatClampNeg 25 (vl, (clr gn 24), (0 : Int32)) p0 (m_turned (kd p0.toNatClampNeg) (vl p0.toNatClampNeg) p1)).2.2 ≤ 0 then kp else (if st = 6 then pst (cpx vl ah 16) (dnL kp 80) (st - 1) 16 else pst (cpx vl ah 16) kp st 16)) (cpx vl ah 16) (if (t_gets kd lo hi so fr tg nr.toNatClampNeg 25 (vl, (clr gn 24), (0 : Int32)) p0 (m_turned (kd p0.toNatClampNeg) (vl p0.toNatClampNeg) p1)).2.2 ≤ 0 then kx else (if st = 6 then upd (dnI kx 5) (st - 1).toNatClampNeg nd else upd kx st.toNatClampNeg nd)) (if (t_gets kd lo hi so fr tg nr.toNatClampNeg 25 (vl, (clr gn 24), (0 : Int32)) p0 (m_turned (kd p0.toNatClampNeg) (vl p0.toNatClampNeg) p1)).2.2 ≤ 0 then st else (if st = 6 then st - 1 + 1 else st + 1)) ((t_gets kd lo hi so fr tg nr.toNatClampNeg 25 (vl, (clr gn 24), (0 : Int32)) p0 (m_turned (kd p0.toNatClampNeg) (vl p0.toNatClampNeg) p1)).2.2) (ma + (t_gets kd lo hi so fr tg nr.toNatClampNeg 25 (vl, (clr gn 24), (0 : Int32)) p0 (m_turned (kd p0.toNatClampNeg) (vl p0.toNatClampNeg) p1)).2.2) (0 : Int32) op9_7 nx9_7)) hP hD [0, 1, 2, 3, 4, 5, 6, 7, 8, 9, 10, 11, 12, 13] [] rfl rfl (by decide) (by decide) hk1 hFc hP1 hD1
          generalize H1 = H at hP hS ⊢
          have hP : va_P (dC, dI) vwCl (wM cI cJ cZ b kd ((t_gets kd lo hi so fr tg nr.toNatClampNeg 25 (vl, (clr gn 24), (0 : Int32)) p0 (m_turned (kd p0.toNatClampNeg) (vl p0.toNatClampNeg) p1)).1) lo hi nd so fr tg ((t_gets kd lo hi so fr tg nr.toNatClampNeg 25 (vl, (clr gn 24), (0 : Int32)) p0 (m_turned (kd p0.toNatClampNeg) (vl p0.toNatClampNeg) p1)).2.1) nr (if (t_gets kd lo hi so fr tg nr.toNatClampNeg 25 (vl, (clr gn 24), (0 : Int32)) p0 (m_turned (kd p0.toNatClampNeg) (vl p0.toNatClampNeg) p1)).2.2 ≤ 0 then kp else (if st = 6 then pst (cpx vl ah 16) (dnL kp 80) (st - 1) 16 else pst (cpx vl ah 16) kp st 16)) (cpx vl ah 16) (if (t_gets kd lo hi so fr tg nr.toNatClampNeg 25 (vl, (clr gn 24), (0 : Int32)) p0 (m_turned (kd p0.toNatClampNeg) (vl p0.toNatClampNeg) p1)).2.2 ≤ 0 then kx else (if st = 6 then upd (dnI kx 5) (st - 1).toNatClampNeg nd else upd kx st.toNatClampNeg nd)) (if (t_gets kd lo hi so fr tg nr.toNatClampNeg 25 (vl, (clr gn 24), (0 : Int32)) p0 (m_turned (kd p0.toNatClampNeg) (vl p0.toNatClampNeg) p1)).2.2 ≤ 0 then st else (if st = 6 then st - 1 + 1 else st + 1)) ((t_gets kd lo hi so fr tg nr.toNatClampNeg 25 (vl, (clr gn 24), (0 : Int32)) p0 (m_turned (kd p0.toNatClampNeg) (vl p0.toNatClampNeg) p1)).2.2) (ma + (t_gets kd lo hi so fr tg nr.toNatClampNeg 25 (vl, (clr gn 24), (0 : Int32)) p0 (m_turned (kd p0.toNatClampNeg) (vl p0.toNatClampNeg) p1)).2.2) (0 : Int32) op9_7 nx9_7) H := hP
          have hD : va_D A (wM cI cJ cZ b kd ((t_gets kd lo hi so fr tg nr.toNatClampNeg 25 (vl, (clr gn 24), (0 : Int32)) p0 (m_turned (kd p0.toNatClampNeg) (vl p0.toNatClampNeg) p1)).1) lo hi nd so fr tg ((t_gets kd lo hi so fr tg nr.toNatClampNeg 25 (vl, (clr gn 24), (0 : Int32)) p0 (m_turned (kd p0.toNatClampNeg) (vl p0.toNatClampNeg) p1)).2.1) nr (if (t_gets kd lo hi so fr tg nr.toNatClampNeg 25 (vl, (clr gn 24), (0 : Int32)) p0 (m_turned (kd p0.toNatClampNeg) (vl p0.toNatClampNeg) p1)).2.2 ≤ 0 then kp else (if st = 6 then pst (cpx vl ah 16) (dnL kp 80) (st - 1) 16 else pst (cpx vl ah 16) kp st 16)) (cpx vl ah 16) (if (t_gets kd lo hi so fr tg nr.toNatClampNeg 25 (vl, (clr gn 24), (0 : Int32)) p0 (m_turned (kd p0.toNatClampNeg) (vl p0.toNatClampNeg) p1)).2.2 ≤ 0 then kx else (if st = 6 then upd (dnI kx 5) (st - 1).toNatClampNeg nd else upd kx st.toNatClampNeg nd)) (if (t_gets kd lo hi so fr tg nr.toNatClampNeg 25 (vl, (clr gn 24), (0 : Int32)) p0 (m_turned (kd p0.toNatClampNeg) (vl p0.toNatClampNeg) p1)).2.2 ≤ 0 then st else (if st = 6 then st - 1 + 1 else st + 1)) ((t_gets kd lo hi so fr tg nr.toNatClampNeg 25 (vl, (clr gn 24), (0 : Int32)) p0 (m_turned (kd p0.toNatClampNeg) (vl p0.toNatClampNeg) p1)).2.2) (ma + (t_gets kd lo hi so fr tg nr.toNatClampNeg 25 (vl, (clr gn 24), (0 : Int32)) p0 (m_turned (kd p0.toNatClampNeg) (vl p0.toNatClampNeg) p1)).2.2) (0 : Int32) op9_7 nx9_7) := hD
          exact W.iret (v := (t_gets kd lo hi so fr tg nr.toNatClampNeg 25 (vl, (clr gn 24), (0 : Int32)) p0 (m_turned (kd p0.toNatClampNeg) (vl p0.toNatClampNeg) p1)).2.2) hx hb hr (fun t ht hW => ⟨⟨(t_gets kd lo hi so fr tg nr.toNatClampNeg 25 (vl, (clr gn 24), (0 : Int32)) p0 (m_turned (kd p0.toNatClampNeg) (vl p0.toNatClampNeg) p1)).2.2, (kd, (t_gets kd lo hi so fr tg nr.toNatClampNeg 25 (vl, (clr gn 24), (0 : Int32)) p0 (m_turned (kd p0.toNatClampNeg) (vl p0.toNatClampNeg) p1)).1, lo, hi, nd, so, fr, tg, (t_gets kd lo hi so fr tg nr.toNatClampNeg 25 (vl, (clr gn 24), (0 : Int32)) p0 (m_turned (kd p0.toNatClampNeg) (vl p0.toNatClampNeg) p1)).2.1, nr, (if (t_gets kd lo hi so fr tg nr.toNatClampNeg 25 (vl, (clr gn 24), (0 : Int32)) p0 (m_turned (kd p0.toNatClampNeg) (vl p0.toNatClampNeg) p1)).2.2 ≤ 0 then kp else (if st = 6 then pst (cpx vl ah 16) (dnL kp 80) (st - 1) 16 else pst (cpx vl ah 16) kp st 16)), (cpx vl ah 16), (if (t_gets kd lo hi so fr tg nr.toNatClampNeg 25 (vl, (clr gn 24), (0 : Int32)) p0 (m_turned (kd p0.toNatClampNeg) (vl p0.toNatClampNeg) p1)).2.2 ≤ 0 then kx else (if st = 6 then upd (dnI kx 5) (st - 1).toNatClampNeg nd else upd kx st.toNatClampNeg nd)), (if (t_gets kd lo hi so fr tg nr.toNatClampNeg 25 (vl, (clr gn 24), (0 : Int32)) p0 (m_turned (kd p0.toNatClampNeg) (vl p0.toNatClampNeg) p1)).2.2 ≤ 0 then st else (if st = 6 then st - 1 + 1 else st + 1)), (t_gets kd lo hi so fr tg nr.toNatClampNeg 25 (vl, (clr gn 24), (0 : Int32)) p0 (m_turned (kd p0.toNatClampNeg) (vl p0.toNatClampNeg) p1)).2.2, (ma + (t_gets kd lo hi so fr tg nr.toNatClampNeg 25 (vl, (clr gn 24), (0 : Int32)) p0 (m_turned (kd p0.toNatClampNeg) (vl p0.toNatClampNeg) p1)).2.2), (0 : Int32), op9_7, nx9_7), rfl, ⟨op9_7, nx9_7, (by unfold m_turn; rw [if_neg c_1, if_neg c_2, if_neg c_4, if_pos c_6])⟩, by rw [ht]; exact hP, va_K.moved hW.alike hK, hD⟩, hS.F ht⟩) hS.2.2 dX3_turn_68
        · skip
          refine lv_aload_n hx hb dX3_turn_27 rfl (lv_at hl 0 rfl) ?_
          refine lv_aload_n hx hb dX3_turn_28 rfl (lv_at hl 0 rfl) ?_
          refine va_get (D := (dC, dI)) (ci := 2) (v := .ref (b 1)) (C := RX3) (T := TX3) (N := 19) hx hb hts h_inX3 hown hK hP 0 rfl rfl 0 (by decide) k_0 (fun _ h9 => h9) rfl dX3_turn_29 ?_
          refine lv_iload_n hx hb dX3_turn_32 rfl (lv_at hl 1 rfl) ?_
          refine va_iald hx hb hK hP 1 0 rfl rfl (in_dm hn.2 (by assumption)) dX3_turn_33 ?_
          refine cs_i (W.runV (As := [.int (kd p0.toNatClampNeg)]) (rest := []) ⟨hx, hb, hml, hown, hts⟩ (c_X3_isReal l dC dI cI cJ cZ b kd vl lo hi nd so fr tg gn nr kp ah kx st mo ma fa op nx (kd p0.toNatClampNeg) ) (cwV 1 hts gX3_turn_X3_isReal rfl rfl rfl (by decide +kernel) ⟨Nat.le_of_ble_eq_true rfl, Nat.le_of_ble_eq_true rfl⟩) (fb_v hK hP (va_recv hK hP (ci := 2) (q0 := 0) rfl rfl)) rfl rfl hl.1 rfl (lv_room (Nat.le_of_ble_eq_true rfl)) dX3_turn_34 ⟨Nat.zero_le _, Nat.zero_le _⟩) ?_
          refine lv_if_ne (tgt := 46) hx hb dX3_turn_37 (by decide) (fun c_8 => ?_) (fun c_8 => ?_)
          · skip
            refine lv_aload_n hx hb dX3_turn_46 rfl (lv_at hl 0 rfl) ?_
            refine lv_iload_n hx hb dX3_turn_47 rfl (lv_at hl 1 rfl) ?_
            refine lv_aload_n hx hb dX3_turn_48 rfl (lv_at hl 0 rfl) ?_
            refine lv_aload_n hx hb dX3_turn_49 rfl (lv_at hl 0 rfl) ?_
            refine va_get (D := (dC, dI)) (ci := 2) (v := .ref (b 1)) (C := RX3) (T := TX3) (N := 19) hx hb hts h_inX3 hown hK hP 0 rfl rfl 0 (by decide) k_0 (fun _ h9 => h9) rfl dX3_turn_50 ?_
            refine lv_iload_n hx hb dX3_turn_53 rfl (lv_at hl 1 rfl) ?_
            refine va_iald hx hb hK hP 1 0 rfl rfl (in_dm hn.2 (by assumption)) dX3_turn_54 ?_
            refine lv_aload_n hx hb dX3_turn_55 rfl (lv_at hl 0 rfl) ?_
            refine va_get (D := (dC, dI)) (ci := 2) (v := .ref (b 2)) (C := RX3) (T := TX3) (N := 19) hx hb hts h_inX3 hown hK hP 0 rfl rfl 1 (by decide) k_1 (fun _ h9 => h9) rfl dX3_turn_56 ?_
            refine lv_iload_n hx hb dX3_turn_59 rfl (lv_at hl 1 rfl) ?_
            refine va_lald hx hb hK hP 2 1 rfl rfl (in_dm hn.2 (by assumption)) dX3_turn_60 ?_
            refine lv_iload_n hx hb dX3_turn_61 rfl (lv_at hl 2 rfl) ?_
            refine cs_l (W.runV (As := [.int (kd p0.toNatClampNeg), .long (vl p0.toNatClampNeg), .int p1]) (rest := [.int p0, .ref (b 0)]) ⟨hx, hb, hml, hown, hts⟩ (c_X3_turned l dC dI cI cJ cZ b kd vl lo hi nd so fr tg gn nr kp ah kx st mo ma fa op nx (kd p0.toNatClampNeg) (vl p0.toNatClampNeg) p1 ) (cwV 3 hts gX3_turn_X3_turned rfl rfl rfl (by decide +kernel) ⟨Nat.le_of_ble_eq_true rfl, Nat.le_of_ble_eq_true rfl⟩) (fb_v hK hP (va_recv hK hP (ci := 2) (q0 := 0) rfl rfl)) rfl rfl hl.1 rfl (lv_room (Nat.le_of_ble_eq_true rfl)) dX3_turn_62 ⟨Nat.zero_le _, Nat.zero_le _⟩) ?_
            have hFc := va_free (wc := (wM cI cJ cZ b kd vl lo hi nd so fr tg gn nr kp ah kx st mo ma fa op nx)) hD hS hA [0, 1, 2, 3, 4, 5, 6, 7, 8, 9, 10, 11, 12, 13] rfl
            refine va_calli (va_runV (As := [.int p0, .long (m_turned (kd p0.toNatClampNeg) (vl p0.toNatClampNeg) p1)]) (rest := []) ⟨hx, hb, hml, hown, hts⟩ (c_X3_call l dC dI cI cJ cZ b kd vl lo hi nd so fr tg gn nr kp ah kx st mo ma fa op nx p0 (m_turned (kd p0.toNatClampNeg) (vl p0.toNatClampNeg) p1) hnr htg hst (in_dm hn.2 (by assumption)) s.heap.size) (cwV 2 hts gX3_turn_X3_call rfl rfl rfl (by decide +kernel) ⟨Nat.le_of_ble_eq_true rfl, Nat.le_of_ble_eq_true rfl⟩) (fb_m hK hP hD (va_recv hK hP (ci := 2) (q0 := 0) rfl rfl)) rfl rfl hl.1 rfl (lv_room (Nat.le_of_ble_eq_true rfl)) dX3_turn_65 ⟨Nat.zero_le _, Nat.zero_le _⟩) hS (fun q _ h => hFc q h) hFc (fun r_9 u t H1 locs ht hvm hw_9 hB hz1 hk1 hS => ?_)
            obtain ⟨op9_9, nx9_9, hw_9⟩ := hw_9
            obtain ⟨kd_9, vl_9, lo_9, hi_9, nd_9, so_9, fr_9, tg_9, gn_9, nr_9, kp_9, ah_9, kx_9, st_9, mo_9, ma_9, fa_9, op_9, nx_9⟩ := u
            rw [m_call_eq] at hw_9
            have hw_9 := hw_9.symm
            simp only [Prod.mk.injEq] at hw_9
            obtain ⟨rfl, rfl, rfl, rfl, rfl, rfl, rfl, rfl, rfl, rfl, rfl, rfl, rfl, rfl, rfl, rfl, rfl, rfl, rfl, rfl⟩ := hw_9
            obtain ⟨hP1, hK1, hD1⟩ := hB
            rw [ht] at hP1
            obtain ⟨hP, hD⟩ := va_join (wr := []) (w1 := (wM cI cJ cZ b kd ((t_gets kd lo hi so fr tg nr.toNatClampNeg 25 (vl, (clr gn 24), (0 : Int32)) p0 (m_turned (kd p0.toNatClampNeg) (vl p0.toNatClampNeg) p1)).1) lo hi nd so fr tg ((t_gets kd lo hi so fr tg nr.toNatClampNeg 25 (vl, (clr gn 24), (0 : Int32)) p0 (m_turned (kd p0.toNatClampNeg) (vl p0.toNatClampNeg) p1)).2.1) nr (if (t_gets kd lo hi so fr tg nr.toNatClampNeg 25 (vl, (clr gn 24), (0 : Int32)) p0 (m_turned (kd p0.toNatClampNeg) (vl p0.toNatClampNeg) p1)).2.2 ≤ 0 then kp else (if st = 6 then pst (cpx vl ah 16) (dnL kp 80) (st - 1) 16 else pst (cpx vl ah 16) kp st 16)) (cpx vl ah 16) (if (t_gets kd lo hi so fr tg nr.toNatClampNeg 25 (vl, (clr gn 24), (0 : Int32)) p0 (m_turned (kd p0.toNatClampNeg) (vl p0.toNatClampNeg) p1)).2.2 ≤ 0 then kx else (if st = 6 then upd (dnI kx 5) (st - 1).toNatClampNeg nd else upd kx st.toNatClampNeg nd)) (if (t_gets kd lo hi so fr tg nr.toNatClampNeg 25 (vl, (clr gn 24), (0 : Int32)) p0 (m_turned (kd p0.toNatClampNeg) (vl p0.toNatClampNeg) p1)).2.2 ≤ 0 then st else (if st = 6 then st - 1 + 1 else st + 1)) ((t_gets kd lo hi so fr tg nr.toNatClampNeg 25 (vl, (clr gn 24), (0 : Int32)) p0 (m_turned (kd p0.toNatClampNeg) (vl p0.toNatClampNeg) p1)).2.2) (ma + (t_gets kd lo hi so fr tg nr.toNatClampNeg 25 (vl, (clr gn 24), (0 : Int32)) p0 (m_turned (kd p0.toNatClampNeg) (vl p0.toNatClampNeg) p1)).2.2) (0 : Int32) op9_9 nx9_9)) hP hD [0, 1, 2, 3, 4, 5, 6, 7, 8, 9, 10, 11, 12, 13] [] rfl rfl (by decide) (by decide) hk1 hFc hP1 hD1
            generalize H1 = H at hP hS ⊢
            have hP : va_P (dC, dI) vwCl (wM cI cJ cZ b kd ((t_gets kd lo hi so fr tg nr.toNatClampNeg 25 (vl, (clr gn 24), (0 : Int32)) p0 (m_turned (kd p0.toNatClampNeg) (vl p0.toNatClampNeg) p1)).1) lo hi nd so fr tg ((t_gets kd lo hi so fr tg nr.toNatClampNeg 25 (vl, (clr gn 24), (0 : Int32)) p0 (m_turned (kd p0.toNatClampNeg) (vl p0.toNatClampNeg) p1)).2.1) nr (if (t_gets kd lo hi so fr tg nr.toNatClampNeg 25 (vl, (clr gn 24), (0 : Int32)) p0 (m_turned (kd p0.toNatClampNeg) (vl p0.toNatClampNeg) p1)).2.2 ≤ 0 then kp else (if st = 6 then pst (cpx vl ah 16) (dnL kp 80) (st - 1) 16 else pst (cpx vl ah 16) kp st 16)) (cpx vl ah 16) (if (t_gets kd lo hi so fr tg nr.toNatClampNeg 25 (vl, (clr gn 24), (0 : Int32)) p0 (m_turned (kd p0.toNatClampNeg) (vl p0.toNatClampNeg) p1)).2.2 ≤ 0 then kx else (if st = 6 then upd (dnI kx 5) (st - 1).toNatClampNeg nd else upd kx st.toNatClampNeg nd)) (if (t_gets kd lo hi so fr tg nr.toNatClampNeg 25 (vl, (clr gn 24), (0 : Int32)) p0 (m_turned (kd p0.toNatClampNeg) (vl p0.toNatClampNeg) p1)).2.2 ≤ 0 then st else (if st = 6 then st - 1 + 1 else st + 1)) ((t_gets kd lo hi so fr tg nr.toNatClampNeg 25 (vl, (clr gn 24), (0 : Int32)) p0 (m_turned (kd p0.toNatClampNeg) (vl p0.toNatClampNeg) p1)).2.2) (ma + (t_gets kd lo hi so fr tg nr.toNatClampNeg 25 (vl, (clr gn 24), (0 : Int32)) p0 (m_turned (kd p0.toNatClampNeg) (vl p0.toNatClampNeg) p1)).2.2) (0 : Int32) op9_9 nx9_9) H := hP
            have hD : va_D A (wM cI cJ cZ b kd ((t_gets kd lo hi so fr tg nr.toNatClampNeg 25 (vl, (clr gn 24), (0 : Int32)) p0 (m_turned (kd p0.toNatClampNeg) (vl p0.toNatClampNeg) p1)).1) lo hi nd so fr tg ((t_gets kd lo hi so fr tg nr.toNatClampNeg 25 (vl, (clr gn 24), (0 : Int32)) p0 (m_turned (kd p0.toNatClampNeg) (vl p0.toNatClampNeg) p1)).2.1) nr (if (t_gets kd lo hi so fr tg nr.toNatClampNeg 25 (vl, (clr gn 24), (0 : Int32)) p0 (m_turned (kd p0.toNatClampNeg) (vl p0.toNatClampNeg) p1)).2.2 ≤ 0 then kp else (if st = 6 then pst (cpx vl ah 16) (dnL kp 80) (st - 1) 16 else pst (cpx vl ah 16) kp st 16)) (cpx vl ah 16) (if (t_gets kd lo hi so fr tg nr.toNatClampNeg 25 (vl, (clr gn 24), (0 : Int32)) p0 (m_turned (kd p0.toNatClampNeg) (vl p0.toNatClampNeg) p1)).2.2 ≤ 0 then kx else (if st = 6 then upd (dnI kx 5) (st - 1).toNatClampNeg nd else upd kx st.toNatClampNeg nd)) (if (t_gets kd lo hi so fr tg nr.toNatClampNeg 25 (vl, (clr gn 24), (0 : Int32)) p0 (m_turned (kd p0.toNatClampNeg) (vl p0.toNatClampNeg) p1)).2.2 ≤ 0 then st else (if st = 6 then st - 1 + 1 else st + 1)) ((t_gets kd lo hi so fr tg nr.toNatClampNeg 25 (vl, (clr gn 24), (0 : Int32)) p0 (m_turned (kd p0.toNatClampNeg) (vl p0.toNatClampNeg) p1)).2.2) (ma + (t_gets kd lo hi so fr tg nr.toNatClampNeg 25 (vl, (clr gn 24), (0 : Int32)) p0 (m_turned (kd p0.toNatClampNeg) (vl p0.toNatClampNeg) p1)).2.2) (0 : Int32) op9_9 nx9_9) := hD
            exact W.iret (v := (t_gets kd lo hi so fr tg nr.toNatClampNeg 25 (vl, (clr gn 24), (0 : Int32)) p0 (m_turned (kd p0.toNatClampNeg) (vl p0.toNatClampNeg) p1)).2.2) hx hb hr (fun t ht hW => ⟨⟨(t_gets kd lo hi so fr tg nr.toNatClampNeg 25 (vl, (clr gn 24), (0 : Int32)) p0 (m_turned (kd p0.toNatClampNeg) (vl p0.toNatClampNeg) p1)).2.2, (kd, (t_gets kd lo hi so fr tg nr.toNatClampNeg 25 (vl, (clr gn 24), (0 : Int32)) p0 (m_turned (kd p0.toNatClampNeg) (vl p0.toNatClampNeg) p1)).1, lo, hi, nd, so, fr, tg, (t_gets kd lo hi so fr tg nr.toNatClampNeg 25 (vl, (clr gn 24), (0 : Int32)) p0 (m_turned (kd p0.toNatClampNeg) (vl p0.toNatClampNeg) p1)).2.1, nr, (if (t_gets kd lo hi so fr tg nr.toNatClampNeg 25 (vl, (clr gn 24), (0 : Int32)) p0 (m_turned (kd p0.toNatClampNeg) (vl p0.toNatClampNeg) p1)).2.2 ≤ 0 then kp else (if st = 6 then pst (cpx vl ah 16) (dnL kp 80) (st - 1) 16 else pst (cpx vl ah 16) kp st 16)), (cpx vl ah 16), (if (t_gets kd lo hi so fr tg nr.toNatClampNeg 25 (vl, (clr gn 24), (0 : Int32)) p0 (m_turned (kd p0.toNatClampNeg) (vl p0.toNatClampNeg) p1)).2.2 ≤ 0 then kx else (if st = 6 then upd (dnI kx 5) (st - 1).toNatClampNeg nd else upd kx st.toNatClampNeg nd)), (if (t_gets kd lo hi so fr tg nr.toNatClampNeg 25 (vl, (clr gn 24), (0 : Int32)) p0 (m_turned (kd p0.toNatClampNeg) (vl p0.toNatClampNeg) p1)).2.2 ≤ 0 then st else (if st = 6 then st - 1 + 1 else st + 1)), (t_gets kd lo hi so fr tg nr.toNatClampNeg 25 (vl, (clr gn 24), (0 : Int32)) p0 (m_turned (kd p0.toNatClampNeg) (vl p0.toNatClampNeg) p1)).2.2, (ma + (t_gets kd lo hi so fr tg nr.toNatClampNeg 25 (vl, (clr gn 24), (0 : Int32)) p0 (m_turned (kd p0.toNatClampNeg) (vl p0.toNatClampNeg) p1)).2.2), (0 : Int32), op9_9, nx9_9), rfl, ⟨op9_9, nx9_9, (by unfold m_turn; rw [if_neg c_1, if_neg c_2, if_neg c_4, if_neg c_6, if_neg c_8])⟩, by rw [ht]; exact hP, va_K.moved hW.alike hK, hD⟩, hS.F ht⟩) hS.2.2 dX3_turn_68
          · skip
            refine lv_aload_n hx hb dX3_turn_40 rfl (lv_at hl 0 rfl) ?_
            refine lv_iconst (v := 2) hx hb dX3_turn_41 (by decide) ?_
            have hFc := va_free (wc := (wM cI cJ cZ b kd vl lo hi nd so fr tg gn nr kp ah kx st mo ma fa op nx)) hD hS hA [0, 1, 2, 3, 4, 5, 6, 7, 8, 9, 10, 11, 12, 13] rfl
            refine va_calli (va_runV (As := [.int (2 : Int32)]) (rest := []) ⟨hx, hb, hml, hown, hts⟩ (c_X3_refused l dC dI cI cJ cZ b kd vl lo hi nd so fr tg gn nr kp ah kx st mo ma fa op nx (2 : Int32)  s.heap.size) (cwV 1 hts gX3_turn_X3_refused rfl rfl rfl (by decide +kernel) ⟨Nat.le_of_ble_eq_true rfl, Nat.le_of_ble_eq_true rfl⟩) (fb_m hK hP hD (va_recv hK hP (ci := 2) (q0 := 0) rfl rfl)) rfl rfl hl.1 rfl (lv_room (Nat.le_of_ble_eq_true rfl)) dX3_turn_42 ⟨Nat.zero_le _, Nat.zero_le _⟩) hS (fun q _ h => hFc q h) hFc (fun r_10 u t H1 locs ht hvm hw_10 hB hz1 hk1 hS => ?_)
            obtain ⟨kd_10, vl_10, lo_10, hi_10, nd_10, so_10, fr_10, tg_10, gn_10, nr_10, kp_10, ah_10, kx_10, st_10, mo_10, ma_10, fa_10, op_10, nx_10⟩ := u
            rw [m_refused_eq] at hw_10
            have hw_10 := hw_10.symm
            simp only [Prod.mk.injEq] at hw_10
            obtain ⟨rfl, rfl, rfl, rfl, rfl, rfl, rfl, rfl, rfl, rfl, rfl, rfl, rfl, rfl, rfl, rfl, rfl, rfl, rfl, rfl⟩ := hw_10
            obtain ⟨hP1, hK1, hD1⟩ := hB
            rw [ht] at hP1
            obtain ⟨hP, hD⟩ := va_join (wr := []) (w1 := (wM cI cJ cZ b kd vl lo hi nd so fr tg gn nr kp ah kx st mo ma (2 : Int32) op nx)) hP hD [0, 1, 2, 3, 4, 5, 6, 7, 8, 9, 10, 11, 12, 13] [] rfl rfl (by decide) (by decide) hk1 hFc hP1 hD1
            generalize H1 = H at hP hS ⊢
            have hP : va_P (dC, dI) vwCl (wM cI cJ cZ b kd vl lo hi nd so fr tg gn nr kp ah kx st mo ma (2 : Int32) op nx) H := hP
            have hD : va_D A (wM cI cJ cZ b kd vl lo hi nd so fr tg gn nr kp ah kx st mo ma (2 : Int32) op nx) := hD
            exact W.iret (v := (-1 : Int32)) hx hb hr (fun t ht hW => ⟨⟨(-1 : Int32), (kd, vl, lo, hi, nd, so, fr, tg, gn, nr, kp, ah, kx, st, mo, ma, (2 : Int32), op, nx), rfl, ⟨op, nx, (by unfold m_turn; rw [if_neg c_1, if_neg c_2, if_neg c_4, if_neg c_6, if_pos c_8])⟩, by rw [ht]; exact hP, va_K.moved hW.alike hK, hD⟩, hS.F ht⟩) hS.2.2 dX3_turn_45
  · skip
    refine lv_aload_n hx hb dX3_turn_8 rfl (lv_at hl 0 rfl) ?_
    refine lv_iconst (v := 1) hx hb dX3_turn_9 (by decide) ?_
    have hFc := va_free (wc := (wM cI cJ cZ b kd vl lo hi nd so fr tg gn nr kp ah kx st mo ma fa op nx)) hD hS hA [0, 1, 2, 3, 4, 5, 6, 7, 8, 9, 10, 11, 12, 13] rfl
    refine va_calli (va_runV (As := [.int (1 : Int32)]) (rest := []) ⟨hx, hb, hml, hown, hts⟩ (c_X3_refused l dC dI cI cJ cZ b kd vl lo hi nd so fr tg gn nr kp ah kx st mo ma fa op nx (1 : Int32)  s.heap.size) (cwV 1 hts gX3_turn_X3_refused rfl rfl rfl (by decide +kernel) ⟨Nat.le_of_ble_eq_true rfl, Nat.le_of_ble_eq_true rfl⟩) (fb_m hK hP hD (va_recv hK hP (ci := 2) (q0 := 0) rfl rfl)) rfl rfl hl.1 rfl (lv_room (Nat.le_of_ble_eq_true rfl)) dX3_turn_10 ⟨Nat.zero_le _, Nat.zero_le _⟩) hS (fun q _ h => hFc q h) hFc (fun r_11 u t H1 locs ht hvm hw_11 hB hz1 hk1 hS => ?_)
    obtain ⟨kd_11, vl_11, lo_11, hi_11, nd_11, so_11, fr_11, tg_11, gn_11, nr_11, kp_11, ah_11, kx_11, st_11, mo_11, ma_11, fa_11, op_11, nx_11⟩ := u
    rw [m_refused_eq] at hw_11
    have hw_11 := hw_11.symm
    simp only [Prod.mk.injEq] at hw_11
    obtain ⟨rfl, rfl, rfl, rfl, rfl, rfl, rfl, rfl, rfl, rfl, rfl, rfl, rfl, rfl, rfl, rfl, rfl, rfl, rfl, rfl⟩ := hw_11
    obtain ⟨hP1, hK1, hD1⟩ := hB
    rw [ht] at hP1
    obtain ⟨hP, hD⟩ := va_join (wr := []) (w1 := (wM cI cJ cZ b kd vl lo hi nd so fr tg gn nr kp ah kx st mo ma (1 : Int32) op nx)) hP hD [0, 1, 2, 3, 4, 5, 6, 7, 8, 9, 10, 11, 12, 13] [] rfl rfl (by decide) (by decide) hk1 hFc hP1 hD1
    generalize H1 = H at hP hS ⊢
    have hP : va_P (dC, dI) vwCl (wM cI cJ cZ b kd vl lo hi nd so fr tg gn nr kp ah kx st mo ma (1 : Int32) op nx) H := hP
    have hD : va_D A (wM cI cJ cZ b kd vl lo hi nd so fr tg gn nr kp ah kx st mo ma (1 : Int32) op nx) := hD
    exact W.iret (v := (-1 : Int32)) hx hb hr (fun t ht hW => ⟨⟨(-1 : Int32), (kd, vl, lo, hi, nd, so, fr, tg, gn, nr, kp, ah, kx, st, mo, ma, (1 : Int32), op, nx), rfl, ⟨op, nx, (by unfold m_turn; rw [if_pos c_1])⟩, by rw [ht]; exact hP, va_K.moved hW.alike hK, hD⟩, hS.F ht⟩) hS.2.2 dX3_turn_13
def m_take (kd : Nat → Int32) (vl : Nat → Int64) (lo : Nat → Int64) (hi : Nat → Int64) (nd : Int32) (so : Nat → Int32) (fr : Nat → Int32) (tg : Nat → Int32) (gn : Nat → Int32) (nr : Int32) (kp : Nat → Int64) (ah : Nat → Int64) (kx : Nat → Int32) (st : Int32) (mo : Int32) (ma : Int32) (fa : Int32) (op : Nat → Int32) (nx : Nat → Int32) (p0 : Int32) (p1 : Int32) (p2 : Int32) (op9 : Nat → Int32) (nx9 : Nat → Int32) : Int32 × MS :=
  if (m_isDial nd p0) = 0 then ((-1 : Int32), kd, vl, lo, hi, nd, so, fr, tg, gn, nr, kp, ah, kx, st, mo, ma, (1 : Int32), op9, nx9)
  else if (m_isDial nd p1) = 0 then ((-1 : Int32), kd, vl, lo, hi, nd, so, fr, tg, gn, nr, kp, ah, kx, st, mo, ma, (1 : Int32), op9, nx9)
    else if p2 < 0 then ((-1 : Int32), kd, vl, lo, hi, nd, so, fr, tg, gn, nr, kp, ah, kx, st, mo, ma, (2 : Int32), op9, nx9)
      else if p2 ≤ (3 : Int32) then (if (m_reason kd p2 p1 p0) ≤ 0 then ((t_gets kd lo hi so fr tg nr.toNatClampNeg 25 (vl, (clr gn 24), (0 : Int32)) p0 (m_gives kd vl p2 p1 p0)).2.2, kd, (t_gets kd lo hi so fr tg nr.toNatClampNeg 25 (vl, (clr gn 24), (0 : Int32)) p0 (m_gives kd vl p2 p1 p0)).1, lo, hi, nd, so, fr, tg, (t_gets kd lo hi so fr tg nr.toNatClampNeg 25 (vl, (clr gn 24), (0 : Int32)) p0 (m_gives kd vl p2 p1 p0)).2.1, nr, (if (t_gets kd lo hi so fr tg nr.toNatClampNeg 25 (vl, (clr gn 24), (0 : Int32)) p0 (m_gives kd vl p2 p1 p0)).2.2 ≤ 0 then kp else (if st = 6 then pst (cpx vl ah 16) (dnL kp 80) (st - 1) 16 else pst (cpx vl ah 16) kp st 16)), (cpx vl ah 16), (if (t_gets kd lo hi so fr tg nr.toNatClampNeg 25 (vl, (clr gn 24), (0 : Int32)) p0 (m_gives kd vl p2 p1 p0)).2.2 ≤ 0 then kx else (if st = 6 then upd (dnI kx 5) (st - 1).toNatClampNeg nd else upd kx st.toNatClampNeg nd)), (if (t_gets kd lo hi so fr tg nr.toNatClampNeg 25 (vl, (clr gn 24), (0 : Int32)) p0 (m_gives kd vl p2 p1 p0)).2.2 ≤ 0 then st else (if st = 6 then st - 1 + 1 else st + 1)), (t_gets kd lo hi so fr tg nr.toNatClampNeg 25 (vl, (clr gn 24), (0 : Int32)) p0 (m_gives kd vl p2 p1 p0)).2.2, (ma + (t_gets kd lo hi so fr tg nr.toNatClampNeg 25 (vl, (clr gn 24), (0 : Int32)) p0 (m_gives kd vl p2 p1 p0)).2.2), (0 : Int32), op9, nx9)
          else ((-1 : Int32), kd, vl, lo, hi, nd, so, fr, tg, gn, nr, kp, ah, kx, st, mo, ma, (m_reason kd p2 p1 p0), op9, nx9))
        else ((-1 : Int32), kd, vl, lo, hi, nd, so, fr, tg, gn, nr, kp, ah, kx, st, mo, ma, (2 : Int32), op9, nx9)
set_option maxHeartbeats 4000000 in
set_option maxRecDepth 100000 in
theorem c_X3_take (l : Launch) (dC : Nat → ClassId) (dI : Nat → Nat → Nat) (cI cJ cZ : ClassId) (b : Nat → Nat) (kd : Nat → Int32) (vl : Nat → Int64) (lo : Nat → Int64) (hi : Nat → Int64) (nd : Int32) (so : Nat → Int32) (fr : Nat → Int32) (tg : Nat → Int32) (gn : Nat → Int32) (nr : Int32) (kp : Nat → Int64) (ah : Nat → Int64) (kx : Nat → Int32) (st : Int32) (mo : Int32) (ma : Int32) (fa : Int32) (op : Nat → Int32) (nx : Nat → Int32) (p0 : Int32) (p1 : Int32) (p2 : Int32) (hnr : 0 ≤ nr ∧ nr ≤ 24) (htg : ∀ j, vp_in (tg j) 16) (hst : 0 ≤ st ∧ st ≤ 6) (hn : 0 ≤ nd ∧ nd ≤ 16) (sz : Nat) : Met l yX3_take wsX3_take ({ frames := 8, cells := 0, slots := 0, locals := 193 }) (va_Pc [.ref (b 0), .int p0, .int p1, .int p2] (fun U => U.heap.size = sz ∧ va_P (dC, dI) vwCl (wM cI cJ cZ b kd vl lo hi nd so fr tg gn nr kp ah kx st mo ma fa op nx) U.heap ∧ va_K (dC, dI) vwCl (tA cI cJ cZ) U ∧ va_D (fun _ => True) (wM cI cJ cZ b kd vl lo hi nd so fr tg gn nr kp ah kx st mo ma fa op nx))) (va_Qi (fun (r : Int32) (u : MS) => ∃ op9 nx9 : Nat → Int32, (r, u) = m_take kd vl lo hi nd so fr tg gn nr kp ah kx st mo ma fa op nx p0 p1 p2 op9 nx9) (at_M dC dI cI cJ cZ (va_A (wM cI cJ cZ b kd vl lo hi nd so fr tg gn nr kp ah kx st mo ma fa op nx) sz) b) (va_A (wM cI cJ cZ b kd vl lo hi nd so fr tg gn nr kp ah kx st mo ma fa op nx) sz)) 0 0 (va_A (wM cI cJ cZ b kd vl lo hi nd so fr tg gn nr kp ah kx st mo ma fa op nx) sz) := by
  refine Met.ofW (cc := cX3_take) (maxL := 5) (ret := (some .int)) (by decide) rfl ?_
  intro p e s m args below meth c s₁ B hml hv
  obtain ⟨rfl, hsz, hP, hK, hD0⟩ := hv
  subst hsz
  have hD := hD0.self (sz := s.heap.size)
  generalize hAe : va_A (wM cI cJ cZ b kd vl lo hi nd so fr tg gn nr kp ah kx st mo ma fa op nx) s.heap.size = A at hD ⊢
  have hA : ∀ q : Nat, s.heap.size ≤ q → A q := fun q h => by rw [← hAe]; exact Or.inr h
  have hS : va_S A s.heap s.heap [] := va_S.rf
  have hP : va_P (dC, dI) vwCl (wM cI cJ cZ b kd vl lo hi nd so fr tg gn nr kp ah kx st mo ma fa op nx) s.heap := hP
  have hx := B.exec
  have hb := B.bytes
  have hr := B.returns
  have hts := atoms_spec (ws := wsX3_take) B.pre
  have hown : s.vm.findClass RX3 = some m.cls := findClass_of_methodNamed B.named
  have hlocks := B.notSynchronized
  have hl := lv_entry ([.ref (b 0), .int p0, .int p1, .int p2]) (n := 5) (Nat.le_of_ble_eq_true rfl)
  rw [lg_entry_eq]
  generalize (lg_sl ([.ref (b 0), .int p0, .int p1, .int p2]) ++ List.replicate (5 - (lg_sl ([.ref (b 0), .int p0, .int p1, .int p2])).length) Slot.unset).toArray = ls at hl ⊢
  have hl : lv_has ls 5 [(0, .ref (b 0)), (1, .int p0), (2, .int p1), (3, .int p2)] := hl
  refine lv_aload_n hx hb dX3_take_0 rfl (lv_at hl 0 rfl) ?_
  refine lv_iload_n hx hb dX3_take_1 rfl (lv_at hl 1 rfl) ?_
  refine cs_i (W.runV (As := [.int p0]) (rest := []) ⟨hx, hb, hml, hown, hts⟩ (c_X3_isDial l dC dI cI cJ cZ b kd vl lo hi nd so fr tg gn nr kp ah kx st mo ma fa op nx p0 ) (cwV 1 hts gX3_take_X3_isDial rfl rfl rfl (by decide +kernel) ⟨Nat.le_of_ble_eq_true rfl, Nat.le_of_ble_eq_true rfl⟩) (fb_v hK hP (va_recv hK hP (ci := 2) (q0 := 0) rfl rfl)) rfl rfl hl.1 rfl (lv_room (Nat.le_of_ble_eq_true rfl)) dX3_take_2 ⟨Nat.zero_le _, Nat.zero_le _⟩) ?_
  refine lv_if_eq (tgt := 16) hx hb dX3_take_5 (by decide) (fun c_1 => ?_) (fun c_1 => ?_)
  · skip
    refine lv_aload_n hx hb dX3_take_16 rfl (lv_at hl 0 rfl) ?_
    refine lv_iconst (v := 1) hx hb dX3_take_17 (by decide) ?_
    have hFc := va_free (wc := (wM cI cJ cZ b kd vl lo hi nd so fr tg gn nr kp ah kx st mo ma fa op nx)) hD hS hA [0, 1, 2, 3, 4, 5, 6, 7, 8, 9, 10, 11, 12, 13] rfl
    refine va_calli (va_runV (As := [.int (1 : Int32)]) (rest := []) ⟨hx, hb, hml, hown, hts⟩ (c_X3_refused l dC dI cI cJ cZ b kd vl lo hi nd so fr tg gn nr kp ah kx st mo ma fa op nx (1 : Int32)  s.heap.size) (cwV 1 hts gX3_take_X3_refused rfl rfl rfl (by decide +kernel) ⟨Nat.le_of_ble_eq_true rfl, Nat.le_of_ble_eq_true rfl⟩) (fb_m hK hP hD (va_recv hK hP (ci := 2) (q0 := 0) rfl rfl)) rfl rfl hl.1 rfl (lv_room (Nat.le_of_ble_eq_true rfl)) dX3_take_18 ⟨Nat.zero_le _, Nat.zero_le _⟩) hS (fun q _ h => hFc q h) hFc (fun r_2 u t H1 locs ht hvm hw_2 hB hz1 hk1 hS => ?_)
    obtain ⟨kd_2, vl_2, lo_2, hi_2, nd_2, so_2, fr_2, tg_2, gn_2, nr_2, kp_2, ah_2, kx_2, st_2, mo_2, ma_2, fa_2, op_2, nx_2⟩ := u
    rw [m_refused_eq] at hw_2
    have hw_2 := hw_2.symm
    simp only [Prod.mk.injEq] at hw_2
    obtain ⟨rfl, rfl, rfl, rfl, rfl, rfl, rfl, rfl, rfl, rfl, rfl, rfl, rfl, rfl, rfl, rfl, rfl, rfl, rfl, rfl⟩ := hw_2
    obtain ⟨hP1, hK1, hD1⟩ := hB
    rw [ht] at hP1
    obtain ⟨hP, hD⟩ := va_join (wr := []) (w1 := (wM cI cJ cZ b kd vl lo hi nd so fr tg gn nr kp ah kx st mo ma (1 : Int32) op nx)) hP hD [0, 1, 2, 3, 4, 5, 6, 7, 8, 9, 10, 11, 12, 13] [] rfl rfl (by decide) (by decide) hk1 hFc hP1 hD1
    generalize H1 = H at hP hS ⊢
    have hP : va_P (dC, dI) vwCl (wM cI cJ cZ b kd vl lo hi nd so fr tg gn nr kp ah kx st mo ma (1 : Int32) op nx) H := hP
    have hD : va_D A (wM cI cJ cZ b kd vl lo hi nd so fr tg gn nr kp ah kx st mo ma (1 : Int32) op nx) := hD
    exact W.iret (v := (-1 : Int32)) hx hb hr (fun t ht hW => ⟨⟨(-1 : Int32), (kd, vl, lo, hi, nd, so, fr, tg, gn, nr, kp, ah, kx, st, mo, ma, (1 : Int32), op, nx), rfl, ⟨op, nx, (by unfold m_take; rw [if_pos c_1])⟩, by rw [ht]; exact hP, va_K.moved hW.alike hK, hD⟩, hS.F ht⟩) hS.2.2 dX3_take_21
  · skip
    refine lv_aload_n hx hb dX3_take_8 rfl (lv_at hl 0 rfl) ?_
    refine lv_iload_n hx hb dX3_take_9 rfl (lv_at hl 2 rfl) ?_
    refine cs_i (W.runV (As := [.int p1]) (rest := []) ⟨hx, hb, hml, hown, hts⟩ (c_X3_isDial l dC dI cI cJ cZ b kd vl lo hi nd so fr tg gn nr kp ah kx st mo ma fa op nx p1 ) (cwV 1 hts gX3_take_X3_isDial rfl rfl rfl (by decide +kernel) ⟨Nat.le_of_ble_eq_true rfl, Nat.le_of_ble_eq_true rfl⟩) (fb_v hK hP (va_recv hK hP (ci := 2) (q0 := 0) rfl rfl)) rfl rfl hl.1 rfl (lv_room (Nat.le_of_ble_eq_true rfl)) dX3_take_10 ⟨Nat.zero_le _, Nat.zero_le _⟩) ?_
    refine lv_if_ne (tgt := 22) hx hb dX3_take_13 (by decide) (fun c_3 => ?_) (fun c_3 => ?_)
    · skip
      refine lv_iload_n hx hb dX3_take_22 rfl (lv_at hl 3 rfl) ?_
      refine lv_if_lt (tgt := 31) hx hb dX3_take_23 (by decide) (fun c_4 => ?_) (fun c_4 => ?_)
      · skip
        refine lv_aload_n hx hb dX3_take_31 rfl (lv_at hl 0 rfl) ?_
        refine lv_iconst (v := 2) hx hb dX3_take_32 (by decide) ?_
        have hFc := va_free (wc := (wM cI cJ cZ b kd vl lo hi nd so fr tg gn nr kp ah kx st mo ma fa op nx)) hD hS hA [0, 1, 2, 3, 4, 5, 6, 7, 8, 9, 10, 11, 12, 13] rfl
        refine va_calli (va_runV (As := [.int (2 : Int32)]) (rest := []) ⟨hx, hb, hml, hown, hts⟩ (c_X3_refused l dC dI cI cJ cZ b kd vl lo hi nd so fr tg gn nr kp ah kx st mo ma fa op nx (2 : Int32)  s.heap.size) (cwV 1 hts gX3_take_X3_refused rfl rfl rfl (by decide +kernel) ⟨Nat.le_of_ble_eq_true rfl, Nat.le_of_ble_eq_true rfl⟩) (fb_m hK hP hD (va_recv hK hP (ci := 2) (q0 := 0) rfl rfl)) rfl rfl hl.1 rfl (lv_room (Nat.le_of_ble_eq_true rfl)) dX3_take_33 ⟨Nat.zero_le _, Nat.zero_le _⟩) hS (fun q _ h => hFc q h) hFc (fun r_5 u t H1 locs ht hvm hw_5 hB hz1 hk1 hS => ?_)
        obtain ⟨kd_5, vl_5, lo_5, hi_5, nd_5, so_5, fr_5, tg_5, gn_5, nr_5, kp_5, ah_5, kx_5, st_5, mo_5, ma_5, fa_5, op_5, nx_5⟩ := u
        rw [m_refused_eq] at hw_5
        have hw_5 := hw_5.symm
        simp only [Prod.mk.injEq] at hw_5
        obtain ⟨rfl, rfl, rfl, rfl, rfl, rfl, rfl, rfl, rfl, rfl, rfl, rfl, rfl, rfl, rfl, rfl, rfl, rfl, rfl, rfl⟩ := hw_5
        obtain ⟨hP1, hK1, hD1⟩ := hB
        rw [ht] at hP1
        obtain ⟨hP, hD⟩ := va_join (wr := []) (w1 := (wM cI cJ cZ b kd vl lo hi nd so fr tg gn nr kp ah kx st mo ma (2 : Int32) op nx)) hP hD [0, 1, 2, 3, 4, 5, 6, 7, 8, 9, 10, 11, 12, 13] [] rfl rfl (by decide) (by decide) hk1 hFc hP1 hD1
        generalize H1 = H at hP hS ⊢
        have hP : va_P (dC, dI) vwCl (wM cI cJ cZ b kd vl lo hi nd so fr tg gn nr kp ah kx st mo ma (2 : Int32) op nx) H := hP
        have hD : va_D A (wM cI cJ cZ b kd vl lo hi nd so fr tg gn nr kp ah kx st mo ma (2 : Int32) op nx) := hD
        exact W.iret (v := (-1 : Int32)) hx hb hr (fun t ht hW => ⟨⟨(-1 : Int32), (kd, vl, lo, hi, nd, so, fr, tg, gn, nr, kp, ah, kx, st, mo, ma, (2 : Int32), op, nx), rfl, ⟨op, nx, (by unfold m_take; rw [if_neg c_1, if_neg c_3, if_pos c_4])⟩, by rw [ht]; exact hP, va_K.moved hW.alike hK, hD⟩, hS.F ht⟩) hS.2.2 dX3_take_36
      · skip
        refine lv_iload_n hx hb dX3_take_26 rfl (lv_at hl 3 rfl) ?_
        refine lv_iconst (v := 3) hx hb dX3_take_27 (by decide) ?_
        refine lv_icmp_le (tgt := 37) hx hb dX3_take_28 (by decide) (fun c_6 => ?_) (fun c_6 => ?_)
        · skip
          refine lv_aload_n hx hb dX3_take_37 rfl (lv_at hl 0 rfl) ?_
          refine lv_iload_n hx hb dX3_take_38 rfl (lv_at hl 3 rfl) ?_
          refine lv_iload_n hx hb dX3_take_39 rfl (lv_at hl 2 rfl) ?_
          refine lv_iload_n hx hb dX3_take_40 rfl (lv_at hl 1 rfl) ?_
          refine cs_i (W.runV (As := [.int p2, .int p1, .int p0]) (rest := []) ⟨hx, hb, hml, hown, hts⟩ (c_X3_reason l dC dI cI cJ cZ b kd vl lo hi nd so fr tg gn nr kp ah kx st mo ma fa op nx p2 p1 p0 (in_dm hn.2 (by assumption)) (in_dm hn.2 (by assumption))) (cwV 3 hts gX3_take_X3_reason rfl rfl rfl (by decide +kernel) ⟨Nat.le_of_ble_eq_true rfl, Nat.le_of_ble_eq_true rfl⟩) (fb_v hK hP (va_recv hK hP (ci := 2) (q0 := 0) rfl rfl)) rfl rfl hl.1 rfl (lv_room (Nat.le_of_ble_eq_true rfl)) dX3_take_41 ⟨Nat.zero_le _, Nat.zero_le _⟩) ?_
          refine lv_istore (lv' := [(4, .int (m_reason kd p2 p1 p0)), (0, .ref (b 0)), (1, .int p0), (2, .int p1), (3, .int p2)]) hx hb dX3_take_44 hl (by decide) rfl (fun ls hl => ?_)
          refine lv_iload hx hb dX3_take_46 (lv_at hl 0 rfl) ?_
          refine lv_if_le (tgt := 58) hx hb dX3_take_48 (by decide) (fun c_7 => ?_) (fun c_7 => ?_)
          · skip
            refine lv_aload_n hx hb dX3_take_58 rfl (lv_at hl 1 rfl) ?_
            refine lv_iload_n hx hb dX3_take_59 rfl (lv_at hl 2 rfl) ?_
            refine lv_aload_n hx hb dX3_take_60 rfl (lv_at hl 1 rfl) ?_
            refine lv_iload_n hx hb dX3_take_61 rfl (lv_at hl 4 rfl) ?_
            refine lv_iload_n hx hb dX3_take_62 rfl (lv_at hl 3 rfl) ?_
            refine lv_iload_n hx hb dX3_take_63 rfl (lv_at hl 2 rfl) ?_
            refine cs_l (W.runV (As := [.int p2, .int p1, .int p0]) (rest := [.int p0, .ref (b 0)]) ⟨hx, hb, hml, hown, hts⟩ (c_X3_gives l dC dI cI cJ cZ b kd vl lo hi nd so fr tg gn nr kp ah kx st mo ma fa op nx p2 p1 p0 (in_dm hn.2 (by assumption)) (in_dm hn.2 (by assumption))) (cwV 3 hts gX3_take_X3_gives rfl rfl rfl (by decide +kernel) ⟨Nat.le_of_ble_eq_true rfl, Nat.le_of_ble_eq_true rfl⟩) (fb_v hK hP (va_recv hK hP (ci := 2) (q0 := 0) rfl rfl)) rfl rfl hl.1 rfl (lv_room (Nat.le_of_ble_eq_true rfl)) dX3_take_64 ⟨Nat.zero_le _, Nat.zero_le _⟩) ?_
            have hFc := va_free (wc := (wM cI cJ cZ b kd vl lo hi nd so fr tg gn nr kp ah kx st mo ma fa op nx)) hD hS hA [0, 1, 2, 3, 4, 5, 6, 7, 8, 9, 10, 11, 12, 13] rfl
            refine va_calli (va_runV (As := [.int p0, .long (m_gives kd vl p2 p1 p0)]) (rest := []) ⟨hx, hb, hml, hown, hts⟩ (c_X3_call l dC dI cI cJ cZ b kd vl lo hi nd so fr tg gn nr kp ah kx st mo ma fa op nx p0 (m_gives kd vl p2 p1 p0) hnr htg hst (in_dm hn.2 (by assumption)) s.heap.size) (cwV 2 hts gX3_take_X3_call rfl rfl rfl (by decide +kernel) ⟨Nat.le_of_ble_eq_true rfl, Nat.le_of_ble_eq_true rfl⟩) (fb_m hK hP hD (va_recv hK hP (ci := 2) (q0 := 0) rfl rfl)) rfl rfl hl.1 rfl (lv_room (Nat.le_of_ble_eq_true rfl)) dX3_take_67 ⟨Nat.zero_le _, Nat.zero_le _⟩) hS (fun q _ h => hFc q h) hFc (fun r_8 u t H1 locs ht hvm hw_8 hB hz1 hk1 hS => ?_)
            obtain ⟨op9_8, nx9_8, hw_8⟩ := hw_8
            obtain ⟨kd_8, vl_8, lo_8, hi_8, nd_8, so_8, fr_8, tg_8, gn_8, nr_8, kp_8, ah_8, kx_8, st_8, mo_8, ma_8, fa_8, op_8, nx_8⟩ := u
            rw [m_call_eq] at hw_8
            have hw_8 := hw_8.symm
            simp only [Prod.mk.injEq] at hw_8
            obtain ⟨rfl, rfl, rfl, rfl, rfl, rfl, rfl, rfl, rfl, rfl, rfl, rfl, rfl, rfl, rfl, rfl, rfl, rfl, rfl, rfl⟩ := hw_8
            obtain ⟨hP1, hK1, hD1⟩ := hB
            rw [ht] at hP1
            obtain ⟨hP, hD⟩ := va_join (wr := []) (w1 := (wM cI cJ cZ b kd ((t_gets kd lo hi so fr tg nr.toNatClampNeg 25 (vl, (clr gn 24), (0 : Int32)) p0 (m_gives kd vl p2 p1 p0)).1) lo hi nd so fr tg ((t_gets kd lo hi so fr tg nr.toNatClampNeg 25 (vl, (clr gn 24), (0 : Int32)) p0 (m_gives kd vl p2 p1 p0)).2.1) nr (if (t_gets kd lo hi so fr tg nr.toNatClampNeg 25 (vl, (clr gn 24), (0 : Int32)) p0 (m_gives kd vl p2 p1 p0)).2.2 ≤ 0 then kp else (if st = 6 then pst (cpx vl ah 16) (dnL kp 80) (st - 1) 16 else pst (cpx vl ah 16) kp st 16)) (cpx vl ah 16) (if (t_gets kd lo hi so fr tg nr.toNatClampNeg 25 (vl, (clr gn 24), (0 : Int32)) p0 (m_gives kd vl p2 p1 p0)).2.2 ≤ 0 then kx else (if st = 6 then upd (dnI kx 5) (st - 1).toNatClampNeg nd else upd kx st.toNatClampNeg nd)) (if (t_gets kd lo hi so fr tg nr.toNatClampNeg 25 (vl, (clr gn 24), (0 : Int32)) p0 (m_gives kd vl p2 p1 p0)).2.2 ≤ 0 then st else (if st = 6 then st - 1 + 1 else st + 1)) ((t_gets kd lo hi so fr tg nr.toNatClampNeg 25 (vl, (clr gn 24), (0 : Int32)) p0 (m_gives kd vl p2 p1 p0)).2.2) (ma + (t_gets kd lo hi so fr tg nr.toNatClampNeg 25 (vl, (clr gn 24), (0 : Int32)) p0 (m_gives kd vl p2 p1 p0)).2.2) (0 : Int32) op9_8 nx9_8)) hP hD [0, 1, 2, 3, 4, 5, 6, 7, 8, 9, 10, 11, 12, 13] [] rfl rfl (by decide) (by decide) hk1 hFc hP1 hD1
            generalize H1 = H at hP hS ⊢
            have hP : va_P (dC, dI) vwCl (wM cI cJ cZ b kd ((t_gets kd lo hi so fr tg nr.toNatClampNeg 25 (vl, (clr gn 24), (0 : Int32)) p0 (m_gives kd vl p2 p1 p0)).1) lo hi nd so fr tg ((t_gets kd lo hi so fr tg nr.toNatClampNeg 25 (vl, (clr gn 24), (0 : Int32)) p0 (m_gives kd vl p2 p1 p0)).2.1) nr (if (t_gets kd lo hi so fr tg nr.toNatClampNeg 25 (vl, (clr gn 24), (0 : Int32)) p0 (m_gives kd vl p2 p1 p0)).2.2 ≤ 0 then kp else (if st = 6 then pst (cpx vl ah 16) (dnL kp 80) (st - 1) 16 else pst (cpx vl ah 16) kp st 16)) (cpx vl ah 16) (if (t_gets kd lo hi so fr tg nr.toNatClampNeg 25 (vl, (clr gn 24), (0 : Int32)) p0 (m_gives kd vl p2 p1 p0)).2.2 ≤ 0 then kx else (if st = 6 then upd (dnI kx 5) (st - 1).toNatClampNeg nd else upd kx st.toNatClampNeg nd)) (if (t_gets kd lo hi so fr tg nr.toNatClampNeg 25 (vl, (clr gn 24), (0 : Int32)) p0 (m_gives kd vl p2 p1 p0)).2.2 ≤ 0 then st else (if st = 6 then st - 1 + 1 else st + 1)) ((t_gets kd lo hi so fr tg nr.toNatClampNeg 25 (vl, (clr gn 24), (0 : Int32)) p0 (m_gives kd vl p2 p1 p0)).2.2) (ma + (t_gets kd lo hi so fr tg nr.toNatClampNeg 25 (vl, (clr gn 24), (0 : Int32)) p0 (m_gives kd vl p2 p1 p0)).2.2) (0 : Int32) op9_8 nx9_8) H := hP
            have hD : va_D A (wM cI cJ cZ b kd ((t_gets kd lo hi so fr tg nr.toNatClampNeg 25 (vl, (clr gn 24), (0 : Int32)) p0 (m_gives kd vl p2 p1 p0)).1) lo hi nd so fr tg ((t_gets kd lo hi so fr tg nr.toNatClampNeg 25 (vl, (clr gn 24), (0 : Int32)) p0 (m_gives kd vl p2 p1 p0)).2.1) nr (if (t_gets kd lo hi so fr tg nr.toNatClampNeg 25 (vl, (clr gn 24), (0 : Int32)) p0 (m_gives kd vl p2 p1 p0)).2.2 ≤ 0 then kp else (if st = 6 then pst (cpx vl ah 16) (dnL kp 80) (st - 1) 16 else pst (cpx vl ah 16) kp st 16)) (cpx vl ah 16) (if (t_gets kd lo hi so fr tg nr.toNatClampNeg 25 (vl, (clr gn 24), (0 : Int32)) p0 (m_gives kd vl p2 p1 p0)).2.2 ≤ 0 then kx else (if st = 6 then upd (dnI kx 5) (st - 1).toNatClampNeg nd else upd kx st.toNatClampNeg nd)) (if (t_gets kd lo hi so fr tg nr.toNatClampNeg 25 (vl, (clr gn 24), (0 : Int32)) p0 (m_gives kd vl p2 p1 p0)).2.2 ≤ 0 then st else (if st = 6 then st - 1 + 1 else st + 1)) ((t_gets kd lo hi so fr tg nr.toNatClampNeg 25 (vl, (clr gn 24), (0 : Int32)) p0 (m_gives kd vl p2 p1 p0)).2.2) (ma + (t_gets kd lo hi so fr tg nr.toNatClampNeg 25 (vl, (clr gn 24), (0 : Int32)) p0 (m_gives kd vl p2 p1 p0)).2.2) (0 : Int32) op9_8 nx9_8) := hD
            exact W.iret (v := (t_gets kd lo hi so fr tg nr.toNatClampNeg 25 (vl, (clr gn 24), (0 : Int32)) p0 (m_gives kd vl p2 p1 p0)).2.2) hx hb hr (fun t ht hW => ⟨⟨(t_gets kd lo hi so fr tg nr.toNatClampNeg 25 (vl, (clr gn 24), (0 : Int32)) p0 (m_gives kd vl p2 p1 p0)).2.2, (kd, (t_gets kd lo hi so fr tg nr.toNatClampNeg 25 (vl, (clr gn 24), (0 : Int32)) p0 (m_gives kd vl p2 p1 p0)).1, lo, hi, nd, so, fr, tg, (t_gets kd lo hi so fr tg nr.toNatClampNeg 25 (vl, (clr gn 24), (0 : Int32)) p0 (m_gives kd vl p2 p1 p0)).2.1, nr, (if (t_gets kd lo hi so fr tg nr.toNatClampNeg 25 (vl, (clr gn 24), (0 : Int32)) p0 (m_gives kd vl p2 p1 p0)).2.2 ≤ 0 then kp else (if st = 6 then pst (cpx vl ah 16) (dnL kp 80) (st - 1) 16 else pst (cpx vl ah 16) kp st 16)), (cpx vl ah 16), (if (t_gets kd lo hi so fr tg nr.toNatClampNeg 25 (vl, (clr gn 24), (0 : Int32)) p0 (m_gives kd vl p2 p1 p0)).2.2 ≤ 0 then kx else (if st = 6 then upd (dnI kx 5) (st - 1).toNatClampNeg nd else upd kx st.toNatClampNeg nd)), (if (t_gets kd lo hi so fr tg nr.toNatClampNeg 25 (vl, (clr gn 24), (0 : Int32)) p0 (m_gives kd vl p2 p1 p0)).2.2 ≤ 0 then st else (if st = 6 then st - 1 + 1 else st + 1)), (t_gets kd lo hi so fr tg nr.toNatClampNeg 25 (vl, (clr gn 24), (0 : Int32)) p0 (m_gives kd vl p2 p1 p0)).2.2, (ma + (t_gets kd lo hi so fr tg nr.toNatClampNeg 25 (vl, (clr gn 24), (0 : Int32)) p0 (m_gives kd vl p2 p1 p0)).2.2), (0 : Int32), op9_8, nx9_8), rfl, ⟨op9_8, nx9_8, (by unfold m_take; rw [if_neg c_1, if_neg c_3, if_neg c_4, if_pos c_6, if_pos c_7])⟩, by rw [ht]; exact hP, va_K.moved hW.alike hK, hD⟩, hS.F ht⟩) hS.2.2 dX3_take_70
          · skip
            refine lv_aload_n hx hb dX3_take_51 rfl (lv_at hl 1 rfl) ?_
            refine lv_iload hx hb dX3_take_52 (lv_at hl 0 rfl) ?_
            have hFc := va_free (wc := (wM cI cJ cZ b kd vl lo hi nd so fr tg gn nr kp ah kx st mo ma fa op nx)) hD hS hA [0, 1, 2, 3, 4, 5, 6, 7, 8, 9, 10, 11, 12, 13] rfl
            refine va_calli (va_runV (As := [.int (m_reason kd p2 p1 p0)]) (rest := []) ⟨hx, hb, hml, hown, hts⟩ (c_X3_refused l dC dI cI cJ cZ b kd vl lo hi nd so fr tg gn nr kp ah kx st mo ma fa op nx (m_reason kd p2 p1 p0)  s.heap.size) (cwV 1 hts gX3_take_X3_refused rfl rfl rfl (by decide +kernel) ⟨Nat.le_of_ble_eq_true rfl, Nat.le_of_ble_eq_true rfl⟩) (fb_m hK hP hD (va_recv hK hP (ci := 2) (q0 := 0) rfl rfl)) rfl rfl hl.1 rfl (lv_room (Nat.le_of_ble_eq_true rfl)) dX3_take_54 ⟨Nat.zero_le _, Nat.zero_le _⟩) hS (fun q _ h => hFc q h) hFc (fun r_9 u t H1 locs ht hvm hw_9 hB hz1 hk1 hS => ?_)
            obtain ⟨kd_9, vl_9, lo_9, hi_9, nd_9, so_9, fr_9, tg_9, gn_9, nr_9, kp_9, ah_9, kx_9, st_9, mo_9, ma_9, fa_9, op_9, nx_9⟩ := u
            rw [m_refused_eq] at hw_9
            have hw_9 := hw_9.symm
            simp only [Prod.mk.injEq] at hw_9
            obtain ⟨rfl, rfl, rfl, rfl, rfl, rfl, rfl, rfl, rfl, rfl, rfl, rfl, rfl, rfl, rfl, rfl, rfl, rfl, rfl, rfl⟩ := hw_9
            obtain ⟨hP1, hK1, hD1⟩ := hB
            rw [ht] at hP1
            obtain ⟨hP, hD⟩ := va_join (wr := []) (w1 := (wM cI cJ cZ b kd vl lo hi nd so fr tg gn nr kp ah kx st mo ma (m_reason kd p2 p1 p0) op nx)) hP hD [0, 1, 2, 3, 4, 5, 6, 7, 8, 9, 10, 11, 12, 13] [] rfl rfl (by decide) (by decide) hk1 hFc hP1 hD1
            generalize H1 = H at hP hS ⊢
            have hP : va_P (dC, dI) vwCl (wM cI cJ cZ b kd vl lo hi nd so fr tg gn nr kp ah kx st mo ma (m_reason kd p2 p1 p0) op nx) H := hP
            have hD : va_D A (wM cI cJ cZ b kd vl lo hi nd so fr tg gn nr kp ah kx st mo ma (m_reason kd p2 p1 p0) op nx) := hD
            exact W.iret (v := (-1 : Int32)) hx hb hr (fun t ht hW => ⟨⟨(-1 : Int32), (kd, vl, lo, hi, nd, so, fr, tg, gn, nr, kp, ah, kx, st, mo, ma, (m_reason kd p2 p1 p0), op, nx), rfl, ⟨op, nx, (by unfold m_take; rw [if_neg c_1, if_neg c_3, if_neg c_4, if_pos c_6, if_neg c_7])⟩, by rw [ht]; exact hP, va_K.moved hW.alike hK, hD⟩, hS.F ht⟩) hS.2.2 dX3_take_57
        · skip
          refine lv_aload_n hx hb dX3_take_31 rfl (lv_at hl 0 rfl) ?_
          refine lv_iconst (v := 2) hx hb dX3_take_32 (by decide) ?_
          have hFc := va_free (wc := (wM cI cJ cZ b kd vl lo hi nd so fr tg gn nr kp ah kx st mo ma fa op nx)) hD hS hA [0, 1, 2, 3, 4, 5, 6, 7, 8, 9, 10, 11, 12, 13] rfl
          refine va_calli (va_runV (As := [.int (2 : Int32)]) (rest := []) ⟨hx, hb, hml, hown, hts⟩ (c_X3_refused l dC dI cI cJ cZ b kd vl lo hi nd so fr tg gn nr kp ah kx st mo ma fa op nx (2 : Int32)  s.heap.size) (cwV 1 hts gX3_take_X3_refused rfl rfl rfl (by decide +kernel) ⟨Nat.le_of_ble_eq_true rfl, Nat.le_of_ble_eq_true rfl⟩) (fb_m hK hP hD (va_recv hK hP (ci := 2) (q0 := 0) rfl rfl)) rfl rfl hl.1 rfl (lv_room (Nat.le_of_ble_eq_true rfl)) dX3_take_33 ⟨Nat.zero_le _, Nat.zero_le _⟩) hS (fun q _ h => hFc q h) hFc (fun r_10 u t H1 locs ht hvm hw_10 hB hz1 hk1 hS => ?_)
          obtain ⟨kd_10, vl_10, lo_10, hi_10, nd_10, so_10, fr_10, tg_10, gn_10, nr_10, kp_10, ah_10, kx_10, st_10, mo_10, ma_10, fa_10, op_10, nx_10⟩ := u
          rw [m_refused_eq] at hw_10
          have hw_10 := hw_10.symm
          simp only [Prod.mk.injEq] at hw_10
          obtain ⟨rfl, rfl, rfl, rfl, rfl, rfl, rfl, rfl, rfl, rfl, rfl, rfl, rfl, rfl, rfl, rfl, rfl, rfl, rfl, rfl⟩ := hw_10
          obtain ⟨hP1, hK1, hD1⟩ := hB
          rw [ht] at hP1
          obtain ⟨hP, hD⟩ := va_join (wr := []) (w1 := (wM cI cJ cZ b kd vl lo hi nd so fr tg gn nr kp ah kx st mo ma (2 : Int32) op nx)) hP hD [0, 1, 2, 3, 4, 5, 6, 7, 8, 9, 10, 11, 12, 13] [] rfl rfl (by decide) (by decide) hk1 hFc hP1 hD1
          generalize H1 = H at hP hS ⊢
          have hP : va_P (dC, dI) vwCl (wM cI cJ cZ b kd vl lo hi nd so fr tg gn nr kp ah kx st mo ma (2 : Int32) op nx) H := hP
          have hD : va_D A (wM cI cJ cZ b kd vl lo hi nd so fr tg gn nr kp ah kx st mo ma (2 : Int32) op nx) := hD
          exact W.iret (v := (-1 : Int32)) hx hb hr (fun t ht hW => ⟨⟨(-1 : Int32), (kd, vl, lo, hi, nd, so, fr, tg, gn, nr, kp, ah, kx, st, mo, ma, (2 : Int32), op, nx), rfl, ⟨op, nx, (by unfold m_take; rw [if_neg c_1, if_neg c_3, if_neg c_4, if_neg c_6])⟩, by rw [ht]; exact hP, va_K.moved hW.alike hK, hD⟩, hS.F ht⟩) hS.2.2 dX3_take_36
    · skip
      refine lv_aload_n hx hb dX3_take_16 rfl (lv_at hl 0 rfl) ?_
      refine lv_iconst (v := 1) hx hb dX3_take_17 (by decide) ?_
      have hFc := va_free (wc := (wM cI cJ cZ b kd vl lo hi nd so fr tg gn nr kp ah kx st mo ma fa op nx)) hD hS hA [0, 1, 2, 3, 4, 5, 6, 7, 8, 9, 10, 11, 12, 13] rfl
      refine va_calli (va_runV (As := [.int (1 : Int32)]) (rest := []) ⟨hx, hb, hml, hown, hts⟩ (c_X3_refused l dC dI cI cJ cZ b kd vl lo hi nd so fr tg gn nr kp ah kx st mo ma fa op nx (1 : Int32)  s.heap.size) (cwV 1 hts gX3_take_X3_refused rfl rfl rfl (by decide +kernel) ⟨Nat.le_of_ble_eq_true rfl, Nat.le_of_ble_eq_true rfl⟩) (fb_m hK hP hD (va_recv hK hP (ci := 2) (q0 := 0) rfl rfl)) rfl rfl hl.1 rfl (lv_room (Nat.le_of_ble_eq_true rfl)) dX3_take_18 ⟨Nat.zero_le _, Nat.zero_le _⟩) hS (fun q _ h => hFc q h) hFc (fun r_11 u t H1 locs ht hvm hw_11 hB hz1 hk1 hS => ?_)
      obtain ⟨kd_11, vl_11, lo_11, hi_11, nd_11, so_11, fr_11, tg_11, gn_11, nr_11, kp_11, ah_11, kx_11, st_11, mo_11, ma_11, fa_11, op_11, nx_11⟩ := u
      rw [m_refused_eq] at hw_11
      have hw_11 := hw_11.symm
      simp only [Prod.mk.injEq] at hw_11
      obtain ⟨rfl, rfl, rfl, rfl, rfl, rfl, rfl, rfl, rfl, rfl, rfl, rfl, rfl, rfl, rfl, rfl, rfl, rfl, rfl, rfl⟩ := hw_11
      obtain ⟨hP1, hK1, hD1⟩ := hB
      rw [ht] at hP1
      obtain ⟨hP, hD⟩ := va_join (wr := []) (w1 := (wM cI cJ cZ b kd vl lo hi nd so fr tg gn nr kp ah kx st mo ma (1 : Int32) op nx)) hP hD [0, 1, 2, 3, 4, 5, 6, 7, 8, 9, 10, 11, 12, 13] [] rfl rfl (by decide) (by decide) hk1 hFc hP1 hD1
      generalize H1 = H at hP hS ⊢
      have hP : va_P (dC, dI) vwCl (wM cI cJ cZ b kd vl lo hi nd so fr tg gn nr kp ah kx st mo ma (1 : Int32) op nx) H := hP
      have hD : va_D A (wM cI cJ cZ b kd vl lo hi nd so fr tg gn nr kp ah kx st mo ma (1 : Int32) op nx) := hD
      exact W.iret (v := (-1 : Int32)) hx hb hr (fun t ht hW => ⟨⟨(-1 : Int32), (kd, vl, lo, hi, nd, so, fr, tg, gn, nr, kp, ah, kx, st, mo, ma, (1 : Int32), op, nx), rfl, ⟨op, nx, (by unfold m_take; rw [if_neg c_1, if_pos c_3])⟩, by rw [ht]; exact hP, va_K.moved hW.alike hK, hD⟩, hS.F ht⟩) hS.2.2 dX3_take_21
def m_dial (kd : Nat → Int32) (vl : Nat → Int64) (lo : Nat → Int64) (hi : Nat → Int64) (nd : Int32) (so : Nat → Int32) (fr : Nat → Int32) (tg : Nat → Int32) (gn : Nat → Int32) (nr : Int32) (kp : Nat → Int64) (ah : Nat → Int64) (kx : Nat → Int32) (st : Int32) (mo : Int32) (ma : Int32) (fa : Int32) (op : Nat → Int32) (nx : Nat → Int32) (p0 : Int32) (p1 : Int64) (p2 : Int64) : Int32 × MS :=
  if p0 < 0 then ((-1 : Int32), kd, vl, lo, hi, nd, so, fr, tg, gn, nr, kp, ah, kx, st, mo, ma, (2 : Int32), op, nx)
  else if p0 ≤ (3 : Int32) then (if nd = (16 : Int32) then ((-1 : Int32), kd, vl, lo, hi, nd, so, fr, tg, gn, nr, kp, ah, kx, st, mo, ma, (5 : Int32), op, nx)
      else if (m_isNumber p0 p1) = 0 then ((-1 : Int32), kd, vl, lo, hi, nd, so, fr, tg, gn, nr, kp, ah, kx, st, mo, ma, (3 : Int32), op, nx)
        else if (m_isNumber p0 p2) = 0 then ((-1 : Int32), kd, vl, lo, hi, nd, so, fr, tg, gn, nr, kp, ah, kx, st, mo, ma, (3 : Int32), op, nx)
          else if (m_isAbove p0 p1 p2) = 0 then (((nd + (1 : Int32)) - (1 : Int32)), (upd kd nd.toNatClampNeg p0), (vp_updL vl nd.toNatClampNeg (m_fitted (upd kd nd.toNatClampNeg p0) (vp_updL lo nd.toNatClampNeg p1) (vp_updL hi nd.toNatClampNeg p2) nd (0 : Int64))), (vp_updL lo nd.toNatClampNeg p1), (vp_updL hi nd.toNatClampNeg p2), (nd + (1 : Int32)), so, fr, tg, gn, nr, kp, ah, kx, st, mo, ma, (0 : Int32), op, nx)
            else ((-1 : Int32), kd, vl, lo, hi, nd, so, fr, tg, gn, nr, kp, ah, kx, st, mo, ma, (4 : Int32), op, nx))
    else ((-1 : Int32), kd, vl, lo, hi, nd, so, fr, tg, gn, nr, kp, ah, kx, st, mo, ma, (2 : Int32), op, nx)
set_option maxHeartbeats 4000000 in
set_option maxRecDepth 100000 in
theorem c_X3_dial (l : Launch) (dC : Nat → ClassId) (dI : Nat → Nat → Nat) (cI cJ cZ : ClassId) (b : Nat → Nat) (kd : Nat → Int32) (vl : Nat → Int64) (lo : Nat → Int64) (hi : Nat → Int64) (nd : Int32) (so : Nat → Int32) (fr : Nat → Int32) (tg : Nat → Int32) (gn : Nat → Int32) (nr : Int32) (kp : Nat → Int64) (ah : Nat → Int64) (kx : Nat → Int32) (st : Int32) (mo : Int32) (ma : Int32) (fa : Int32) (op : Nat → Int32) (nx : Nat → Int32) (p0 : Int32) (p1 : Int64) (p2 : Int64) (hn : 0 ≤ nd ∧ nd ≤ 16) (sz : Nat) : Met l yX3_dial wsX3_dial ({ frames := 5, cells := 0, slots := 0, locals := 118 }) (va_Pc [.ref (b 0), .int p0, .long p1, .long p2] (fun U => U.heap.size = sz ∧ va_P (dC, dI) vwCl (wM cI cJ cZ b kd vl lo hi nd so fr tg gn nr kp ah kx st mo ma fa op nx) U.heap ∧ va_K (dC, dI) vwCl (tA cI cJ cZ) U ∧ va_D (fun _ => True) (wM cI cJ cZ b kd vl lo hi nd so fr tg gn nr kp ah kx st mo ma fa op nx))) (va_Qi (fun (r : Int32) (u : MS) => (r, u) = m_dial kd vl lo hi nd so fr tg gn nr kp ah kx st mo ma fa op nx p0 p1 p2) (at_M dC dI cI cJ cZ (va_A (wM cI cJ cZ b kd vl lo hi nd so fr tg gn nr kp ah kx st mo ma fa op nx) sz) b) (va_A (wM cI cJ cZ b kd vl lo hi nd so fr tg gn nr kp ah kx st mo ma fa op nx) sz)) 0 0 (va_A (wM cI cJ cZ b kd vl lo hi nd so fr tg gn nr kp ah kx st mo ma fa op nx) sz) := by
  refine Met.ofW (cc := cX3_dial) (maxL := 6) (ret := (some .int)) (by decide) rfl ?_
  intro p e s m args below meth c s₁ B hml hv
  obtain ⟨rfl, hsz, hP, hK, hD0⟩ := hv
  subst hsz
  have hD := hD0.self (sz := s.heap.size)
  generalize hAe : va_A (wM cI cJ cZ b kd vl lo hi nd so fr tg gn nr kp ah kx st mo ma fa op nx) s.heap.size = A at hD ⊢
  have hA : ∀ q : Nat, s.heap.size ≤ q → A q := fun q h => by rw [← hAe]; exact Or.inr h
  have hS : va_S A s.heap s.heap [] := va_S.rf
  have hP : va_P (dC, dI) vwCl (wM cI cJ cZ b kd vl lo hi nd so fr tg gn nr kp ah kx st mo ma fa op nx) s.heap := hP
  have hx := B.exec
  have hb := B.bytes
  have hr := B.returns
  have hts := atoms_spec (ws := wsX3_dial) B.pre
  have hown : s.vm.findClass RX3 = some m.cls := findClass_of_methodNamed B.named
  have hlocks := B.notSynchronized
  have h_inX3 : ∀ w ∈ wsX30, w ∈ wsX3_dial := fun _ h => List.mem_cons_of_mem _ (List.mem_append_right _ h)
  have k_0 := hts (.fieldLink RX3 51 "DetentCabinetModel" "dials" "I") (by decide +kernel)
  have k_1 := hts (.fieldLink RX3 55 "DetentCabinetModel" "fault" "I") (by decide +kernel)
  have k_2 := hts (.fieldLink RX3 7 "DetentCabinetModel" "kind" "[I") (by decide +kernel)
  have k_3 := hts (.fieldLink RX3 17 "DetentCabinetModel" "low" "[J") (by decide +kernel)
  have k_4 := hts (.fieldLink RX3 20 "DetentCabinetModel" "high" "[J") (by decide +kernel)
  have k_5 := hts (.fieldLink RX3 13 "DetentCabinetModel" "value" "[J") (by decide +kernel)
  have hl := lv_entry ([.ref (b 0), .int p0, .long p1, .long p2]) (n := 6) (Nat.le_of_ble_eq_true rfl)
  rw [lg_entry_eq]
  generalize (lg_sl ([.ref (b 0), .int p0, .long p1, .long p2]) ++ List.replicate (6 - (lg_sl ([.ref (b 0), .int p0, .long p1, .long p2])).length) Slot.unset).toArray = ls at hl ⊢
  have hl : lv_has ls 6 [(0, .ref (b 0)), (1, .int p0), (2, .long p1), (4, .long p2)] := hl
  refine lv_iload_n hx hb dX3_dial_0 rfl (lv_at hl 1 rfl) ?_
  refine lv_if_lt (tgt := 9) hx hb dX3_dial_1 (by decide) (fun c_1 => ?_) (fun c_1 => ?_)
  · skip
    refine lv_aload_n hx hb dX3_dial_9 rfl (lv_at hl 0 rfl) ?_
    refine lv_iconst (v := 2) hx hb dX3_dial_10 (by decide) ?_
    have hFc := va_free (wc := (wM cI cJ cZ b kd vl lo hi nd so fr tg gn nr kp ah kx st mo ma fa op nx)) hD hS hA [0, 1, 2, 3, 4, 5, 6, 7, 8, 9, 10, 11, 12, 13] rfl
    refine va_calli (va_runV (As := [.int (2 : Int32)]) (rest := []) ⟨hx, hb, hml, hown, hts⟩ (c_X3_refused l dC dI cI cJ cZ b kd vl lo hi nd so fr tg gn nr kp ah kx st mo ma fa op nx (2 : Int32)  s.heap.size) (cwV 1 hts gX3_dial_X3_refused rfl rfl rfl (by decide +kernel) ⟨Nat.le_of_ble_eq_true rfl, Nat.le_of_ble_eq_true rfl⟩) (fb_m hK hP hD (va_recv hK hP (ci := 2) (q0 := 0) rfl rfl)) rfl rfl hl.1 rfl (lv_room (Nat.le_of_ble_eq_true rfl)) dX3_dial_11 ⟨Nat.zero_le _, Nat.zero_le _⟩) hS (fun q _ h => hFc q h) hFc (fun r_2 u t H1 locs ht hvm hw_2 hB hz1 hk1 hS => ?_)
    obtain ⟨kd_2, vl_2, lo_2, hi_2, nd_2, so_2, fr_2, tg_2, gn_2, nr_2, kp_2, ah_2, kx_2, st_2, mo_2, ma_2, fa_2, op_2, nx_2⟩ := u
    rw [m_refused_eq] at hw_2
    have hw_2 := hw_2.symm
    simp only [Prod.mk.injEq] at hw_2
    obtain ⟨rfl, rfl, rfl, rfl, rfl, rfl, rfl, rfl, rfl, rfl, rfl, rfl, rfl, rfl, rfl, rfl, rfl, rfl, rfl, rfl⟩ := hw_2
    obtain ⟨hP1, hK1, hD1⟩ := hB
    rw [ht] at hP1
    obtain ⟨hP, hD⟩ := va_join (wr := []) (w1 := (wM cI cJ cZ b kd vl lo hi nd so fr tg gn nr kp ah kx st mo ma (2 : Int32) op nx)) hP hD [0, 1, 2, 3, 4, 5, 6, 7, 8, 9, 10, 11, 12, 13] [] rfl rfl (by decide) (by decide) hk1 hFc hP1 hD1
    generalize H1 = H at hP hS ⊢
    have hP : va_P (dC, dI) vwCl (wM cI cJ cZ b kd vl lo hi nd so fr tg gn nr kp ah kx st mo ma (2 : Int32) op nx) H := hP
    have hD : va_D A (wM cI cJ cZ b kd vl lo hi nd so fr tg gn nr kp ah kx st mo ma (2 : Int32) op nx) := hD
    exact W.iret (v := (-1 : Int32)) hx hb hr (fun t ht hW => ⟨⟨(-1 : Int32), (kd, vl, lo, hi, nd, so, fr, tg, gn, nr, kp, ah, kx, st, mo, ma, (2 : Int32), op, nx), rfl, (by unfold m_dial; rw [if_pos c_1]), by rw [ht]; exact hP, va_K.moved hW.alike hK, hD⟩, hS.F ht⟩) hS.2.2 dX3_dial_14
  · skip
    refine lv_iload_n hx hb dX3_dial_4 rfl (lv_at hl 1 rfl) ?_
    refine lv_iconst (v := 3) hx hb dX3_dial_5 (by decide) ?_
    refine lv_icmp_le (tgt := 15) hx hb dX3_dial_6 (by decide) (fun c_3 => ?_) (fun c_3 => ?_)
    · skip
      refine lv_aload_n hx hb dX3_dial_15 rfl (lv_at hl 0 rfl) ?_
      refine va_get (D := (dC, dI)) (ci := 2) (v := .int nd) (C := RX3) (T := TX3) (N := 19) hx hb hts h_inX3 hown hK hP 0 rfl rfl 4 (by decide) k_0 (fun _ h9 => h9) rfl dX3_dial_16 ?_
      refine lv_bipush (v := 16) hx hb dX3_dial_19 (by decide) ?_
      refine lv_icmp_ne (tgt := 30) hx hb dX3_dial_21 (by decide) (fun c_4 => ?_) (fun c_4 => ?_)
      · skip
        refine lv_aload_n hx hb dX3_dial_30 rfl (lv_at hl 0 rfl) ?_
        refine lv_iload_n hx hb dX3_dial_31 rfl (lv_at hl 1 rfl) ?_
        refine lv_lload_n hx hb dX3_dial_32 rfl (lv_at hl 2 rfl) ?_
        refine cs_i (W.runV (As := [.int p0, .long p1]) (rest := []) ⟨hx, hb, hml, hown, hts⟩ (c_X3_isNumber l dC dI cI cJ cZ b kd vl lo hi nd so fr tg gn nr kp ah kx st mo ma fa op nx p0 p1 ) (cwV 2 hts gX3_dial_X3_isNumber rfl rfl rfl (by decide +kernel) ⟨Nat.le_of_ble_eq_true rfl, Nat.le_of_ble_eq_true rfl⟩) (fb_v hK hP (va_recv hK hP (ci := 2) (q0 := 0) rfl rfl)) rfl rfl hl.1 rfl (lv_room (Nat.le_of_ble_eq_true rfl)) dX3_dial_33 ⟨Nat.zero_le _, Nat.zero_le _⟩) ?_
        refine lv_if_eq (tgt := 49) hx hb dX3_dial_36 (by decide) (fun c_5 => ?_) (fun c_5 => ?_)
        · skip
          refine lv_aload_n hx hb dX3_dial_49 rfl (lv_at hl 0 rfl) ?_
          refine lv_iconst (v := 3) hx hb dX3_dial_50 (by decide) ?_
          have hFc := va_free (wc := (wM cI cJ cZ b kd vl lo hi nd so fr tg gn nr kp ah kx st mo ma fa op nx)) hD hS hA [0, 1, 2, 3, 4, 5, 6, 7, 8, 9, 10, 11, 12, 13] rfl
          refine va_calli (va_runV (As := [.int (3 : Int32)]) (rest := []) ⟨hx, hb, hml, hown, hts⟩ (c_X3_refused l dC dI cI cJ cZ b kd vl lo hi nd so fr tg gn nr kp ah kx st mo ma fa op nx (3 : Int32)  s.heap.size) (cwV 1 hts gX3_dial_X3_refused rfl rfl rfl (by decide +kernel) ⟨Nat.le_of_ble_eq_true rfl, Nat.le_of_ble_eq_true rfl⟩) (fb_m hK hP hD (va_recv hK hP (ci := 2) (q0 := 0) rfl rfl)) rfl rfl hl.1 rfl (lv_room (Nat.le_of_ble_eq_true rfl)) dX3_dial_51 ⟨Nat.zero_le _, Nat.zero_le _⟩) hS (fun q _ h => hFc q h) hFc (fun r_6 u t H1 locs ht hvm hw_6 hB hz1 hk1 hS => ?_)
          obtain ⟨kd_6, vl_6, lo_6, hi_6, nd_6, so_6, fr_6, tg_6, gn_6, nr_6, kp_6, ah_6, kx_6, st_6, mo_6, ma_6, fa_6, op_6, nx_6⟩ := u
          rw [m_refused_eq] at hw_6
          have hw_6 := hw_6.symm
          simp only [Prod.mk.injEq] at hw_6
          obtain ⟨rfl, rfl, rfl, rfl, rfl, rfl, rfl, rfl, rfl, rfl, rfl, rfl, rfl, rfl, rfl, rfl, rfl, rfl, rfl, rfl⟩ := hw_6
          obtain ⟨hP1, hK1, hD1⟩ := hB
          rw [ht] at hP1
          obtain ⟨hP, hD⟩ := va_join (wr := []) (w1 := (wM cI cJ cZ b kd vl lo hi nd so fr tg gn nr kp ah kx st mo ma (3 : Int32) op nx)) hP hD [0, 1, 2, 3, 4, 5, 6, 7, 8, 9, 10, 11, 12, 13] [] rfl rfl (by decide) (by decide) hk1 hFc hP1 hD1
          generalize H1 = H at hP hS ⊢
          have hP : va_P (dC, dI) vwCl (wM cI cJ cZ b kd vl lo hi nd so fr tg gn nr kp ah kx st mo ma (3 : Int32) op nx) H := hP
          have hD : va_D A (wM cI cJ cZ b kd vl lo hi nd so fr tg gn nr kp ah kx st mo ma (3 : Int32) op nx) := hD
          exact W.iret (v := (-1 : Int32)) hx hb hr (fun t ht hW => ⟨⟨(-1 : Int32), (kd, vl, lo, hi, nd, so, fr, tg, gn, nr, kp, ah, kx, st, mo, ma, (3 : Int32), op, nx), rfl, (by unfold m_dial; rw [if_neg c_1, if_pos c_3, if_neg c_4, if_pos c_5]), by rw [ht]; exact hP, va_K.moved hW.alike hK, hD⟩, hS.F ht⟩) hS.2.2 dX3_dial_54
        · skip
          refine lv_aload_n hx hb dX3_dial_39 rfl (lv_at hl 0 rfl) ?_
          refine lv_iload_n hx hb dX3_dial_40 rfl (lv_at hl 1 rfl) ?_
          refine lv_lload hx hb dX3_dial_41 (lv_at hl 3 rfl) ?_
          refine cs_i (W.runV (As := [.int p0, .long p2]) (rest := []) ⟨hx, hb, hml, hown, hts⟩ (c_X3_isNumber l dC dI cI cJ cZ b kd vl lo hi nd so fr tg gn nr kp ah kx st mo ma fa op nx p0 p2 ) (cwV 2 hts gX3_dial_X3_isNumber rfl rfl rfl (by decide +kernel) ⟨Nat.le_of_ble_eq_true rfl, Nat.le_of_ble_eq_true rfl⟩) (fb_v hK hP (va_recv hK hP (ci := 2) (q0 := 0) rfl rfl)) rfl rfl hl.1 rfl (lv_room (Nat.le_of_ble_eq_true rfl)) dX3_dial_43 ⟨Nat.zero_le _, Nat.zero_le _⟩) ?_
          refine lv_if_ne (tgt := 55) hx hb dX3_dial_46 (by decide) (fun c_7 => ?_) (fun c_7 => ?_)
          · skip
            refine lv_aload_n hx hb dX3_dial_55 rfl (lv_at hl 0 rfl) ?_
            refine lv_iload_n hx hb dX3_dial_56 rfl (lv_at hl 1 rfl) ?_
            refine lv_lload_n hx hb dX3_dial_57 rfl (lv_at hl 2 rfl) ?_
            refine lv_lload hx hb dX3_dial_58 (lv_at hl 3 rfl) ?_
            refine cs_i (W.runV (As := [.int p0, .long p1, .long p2]) (rest := []) ⟨hx, hb, hml, hown, hts⟩ (c_X3_isAbove l dC dI cI cJ cZ b kd vl lo hi nd so fr tg gn nr kp ah kx st mo ma fa op nx p0 p1 p2 ) (cwV 3 hts gX3_dial_X3_isAbove rfl rfl rfl (by decide +kernel) ⟨Nat.le_of_ble_eq_true rfl, Nat.le_of_ble_eq_true rfl⟩) (fb_v hK hP (va_recv hK hP (ci := 2) (q0 := 0) rfl rfl)) rfl rfl hl.1 rfl (lv_room (Nat.le_of_ble_eq_true rfl)) dX3_dial_60 ⟨Nat.zero_le _, Nat.zero_le _⟩) ?_
            refine lv_if_eq (tgt := 72) hx hb dX3_dial_63 (by decide) (fun c_8 => ?_) (fun c_8 => ?_)
            · skip
              refine lv_aload_n hx hb dX3_dial_72 rfl (lv_at hl 0 rfl) ?_
              refine lv_iconst (v := 0) hx hb dX3_dial_73 (by decide) ?_
              refine va_put (D := (dC, dI)) (ci := 2) (v := .int (0 : Int32)) (ty := .int) (C := RX3) (T := TX3) (N := 19) hx hb hts h_inX3 tyX3 tyX3_ok nmX3 hown hK hP hD hS 0 rfl rfl 16 (by decide) k_1 (fun _ h9 => h9) rfl (by decide +kernel) rfl rfl (Nat.le_of_ble_eq_true rfl) dX3_dial_74 (fun H locs hP hD hS => ?_)
              have hP : va_P (dC, dI) vwCl (wM cI cJ cZ b kd vl lo hi nd so fr tg gn nr kp ah kx st mo ma (0 : Int32) op nx) H := hP
              have hD : va_D A (wM cI cJ cZ b kd vl lo hi nd so fr tg gn nr kp ah kx st mo ma (0 : Int32) op nx) := hD
              refine lv_aload_n hx hb dX3_dial_77 rfl (lv_at hl 0 rfl) ?_
              refine va_get (D := (dC, dI)) (ci := 2) (v := .ref (b 1)) (C := RX3) (T := TX3) (N := 19) hx hb hts h_inX3 hown hK hP 0 rfl rfl 0 (by decide) k_2 (fun _ h9 => h9) rfl dX3_dial_78 ?_
              refine lv_aload_n hx hb dX3_dial_81 rfl (lv_at hl 0 rfl) ?_
              refine va_get (D := (dC, dI)) (ci := 2) (v := .int nd) (C := RX3) (T := TX3) (N := 19) hx hb hts h_inX3 hown hK hP 0 rfl rfl 4 (by decide) k_0 (fun _ h9 => h9) rfl dX3_dial_82 ?_
              refine lv_iload_n hx hb dX3_dial_85 rfl (lv_at hl 1 rfl) ?_
              refine va_iast hx hb hK hP hD hS 1 0 rfl rfl (in_nd hn (by assumption)) dX3_dial_86 (fun H locs hP hD hS => ?_)
              have hP : va_P (dC, dI) vwCl (wM cI cJ cZ b (upd kd nd.toNatClampNeg p0) vl lo hi nd so fr tg gn nr kp ah kx st mo ma (0 : Int32) op nx) H := hP
              have hD : va_D A (wM cI cJ cZ b (upd kd nd.toNatClampNeg p0) vl lo hi nd so fr tg gn nr kp ah kx st mo ma (0 : Int32) op nx) := hD
              refine lv_aload_n hx hb dX3_dial_87 rfl (lv_at hl 0 rfl) ?_
              refine va_get (D := (dC, dI)) (ci := 2) (v := .ref (b 3)) (C := RX3) (T := TX3) (N := 19) hx hb hts h_inX3 hown hK hP 0 rfl rfl 2 (by decide) k_3 (fun _ h9 => h9) rfl dX3_dial_88 ?_
              refine lv_aload_n hx hb dX3_dial_91 rfl (lv_at hl 0 rfl) ?_
              refine va_get (D := (dC, dI)) (ci := 2) (v := .int nd) (C := RX3) (T := TX3) (N := 19) hx hb hts h_inX3 hown hK hP 0 rfl rfl 4 (by decide) k_0 (fun _ h9 => h9) rfl dX3_dial_92 ?_
              refine lv_lload_n hx hb dX3_dial_95 rfl (lv_at hl 2 rfl) ?_
              refine va_last hx hb hK hP hD hS 3 1 rfl rfl (in_nd hn (by assumption)) dX3_dial_96 (fun H locs hP hD hS => ?_)
              have hP : va_P (dC, dI) vwCl (wM cI cJ cZ b (upd kd nd.toNatClampNeg p0) vl (vp_updL lo nd.toNatClampNeg p1) hi nd so fr tg gn nr kp ah kx st mo ma (0 : Int32) op nx) H := hP
              have hD : va_D A (wM cI cJ cZ b (upd kd nd.toNatClampNeg p0) vl (vp_updL lo nd.toNatClampNeg p1) hi nd so fr tg gn nr kp ah kx st mo ma (0 : Int32) op nx) := hD
              refine lv_aload_n hx hb dX3_dial_97 rfl (lv_at hl 0 rfl) ?_
              refine va_get (D := (dC, dI)) (ci := 2) (v := .ref (b 4)) (C := RX3) (T := TX3) (N := 19) hx hb hts h_inX3 hown hK hP 0 rfl rfl 3 (by decide) k_4 (fun _ h9 => h9) rfl dX3_dial_98 ?_
              refine lv_aload_n hx hb dX3_dial_101 rfl (lv_at hl 0 rfl) ?_
              refine va_get (D := (dC, dI)) (ci := 2) (v := .int nd) (C := RX3) (T := TX3) (N := 19) hx hb hts h_inX3 hown hK hP 0 rfl rfl 4 (by decide) k_0 (fun _ h9 => h9) rfl dX3_dial_102 ?_
              refine lv_lload hx hb dX3_dial_105 (lv_at hl 3 rfl) ?_
              refine va_last hx hb hK hP hD hS 4 1 rfl rfl (in_nd hn (by assumption)) dX3_dial_107 (fun H locs hP hD hS => ?_)
              have hP : va_P (dC, dI) vwCl (wM cI cJ cZ b (upd kd nd.toNatClampNeg p0) vl (vp_updL lo nd.toNatClampNeg p1) (vp_updL hi nd.toNatClampNeg p2) nd so fr tg gn nr kp ah kx st mo ma (0 : Int32) op nx) H := hP
              have hD : va_D A (wM cI cJ cZ b (upd kd nd.toNatClampNeg p0) vl (vp_updL lo nd.toNatClampNeg p1) (vp_updL hi nd.toNatClampNeg p2) nd so fr tg gn nr kp ah kx st mo ma (0 : Int32) op nx) := hD
              refine lv_aload_n hx hb dX3_dial_108 rfl (lv_at hl 0 rfl) ?_
              refine va_get (D := (dC, dI)) (ci := 2) (v := .ref (b 2)) (C := RX3) (T := TX3) (N := 19) hx hb hts h_inX3 hown hK hP 0 rfl rfl 1 (by decide) k_5 (fun _ h9 => h9) rfl dX3_dial_109 ?_
              refine lv_aload_n hx hb dX3_dial_112 rfl (lv_at hl 0 rfl) ?_
              refine va_get (D := (dC, dI)) (ci := 2) (v := .int nd) (C := RX3) (T := TX3) (N := 19) hx hb hts h_inX3 hown hK hP 0 rfl rfl 4 (by decide) k_0 (fun _ h9 => h9) rfl dX3_dial_113 ?_
              refine lv_aload_n hx hb dX3_dial_116 rfl (lv_at hl 0 rfl) ?_
              refine lv_aload_n hx hb dX3_dial_117 rfl (lv_at hl 0 rfl) ?_
              refine va_get (D := (dC, dI)) (ci := 2) (v := .int nd) (C := RX3) (T := TX3) (N := 19) hx hb hts h_inX3 hown hK hP 0 rfl rfl 4 (by decide) k_0 (fun _ h9 => h9) rfl dX3_dial_118 ?_
              refine lv_lconst (v := 0) hx hb dX3_dial_121 (by decide) ?_
              refine cs_l (W.runV (As := [.int nd, .long (0 : Int64)]) (rest := [.int nd, .ref (b 2)]) ⟨hx, hb, hml, hown, hts⟩ (c_X3_fitted l dC dI cI cJ cZ b (upd kd nd.toNatClampNeg p0) vl (vp_updL lo nd.toNatClampNeg p1) (vp_updL hi nd.toNatClampNeg p2) nd so fr tg gn nr kp ah kx st mo ma (0 : Int32) op nx nd (0 : Int64) (in_nd hn (by assumption))) (cwV 2 hts gX3_dial_X3_fitted rfl rfl rfl (by decide +kernel) ⟨Nat.le_of_ble_eq_true rfl, Nat.le_of_ble_eq_true rfl⟩) (fb_v hK hP (va_recv hK hP (ci := 2) (q0 := 0) rfl rfl)) rfl rfl hl.1 rfl (lv_room (Nat.le_of_ble_eq_true rfl)) dX3_dial_122 ⟨Nat.zero_le _, Nat.zero_le _⟩) ?_
              refine va_last hx hb hK hP hD hS 2 1 rfl rfl (in_nd hn (by assumption)) dX3_dial_125 (fun H locs hP hD hS => ?_)
              have hP : va_P (dC, dI) vwCl (wM cI cJ cZ b (upd kd nd.toNatClampNeg p0) (vp_updL vl nd.toNatClampNeg (m_fitted (upd kd nd.toNatClampNeg p0) (vp_updL lo nd.toNatClampNeg p1) (vp_updL hi nd.toNatClampNeg p2) nd (0 : Int64))) (vp_updL lo nd.toNatClampNeg p1) (vp_updL hi nd.toNatClampNeg p2) nd so fr tg gn nr kp ah kx st mo ma (0 : Int32) op nx) H := hP
              have hD : va_D A (wM cI cJ cZ b (upd kd nd.toNatClampNeg p0) (vp_updL vl nd.toNatClampNeg (m_fitted (upd kd nd.toNatClampNeg p0) (vp_updL lo nd.toNatClampNeg p1) (vp_updL hi nd.toNatClampNeg p2) nd (0 : Int64))) (vp_updL lo nd.toNatClampNeg p1) (vp_updL hi nd.toNatClampNeg p2) nd so fr tg gn nr kp ah kx st mo ma (0 : Int32) op nx) := hD
              refine lv_aload_n hx hb dX3_dial_126 rfl (lv_at hl 0 rfl) ?_
              refine lv_dup hx hb dX3_dial_127 rfl ?_
              refine va_get (D := (dC, dI)) (ci := 2) (v := .int nd) (C := RX3) (T := TX3) (N := 19) hx hb hts h_inX3 hown hK hP 0 rfl rfl 4 (by decide) k_0 (fun _ h9 => h9) rfl dX3_dial_128 ?_
              refine lv_iconst (v := 1) hx hb dX3_dial_131 (by decide) ?_
              refine lv_iadd hx hb dX3_dial_132 ?_
              refine va_put (D := (dC, dI)) (ci := 2) (v := .int (nd + (1 : Int32))) (ty := .int) (C := RX3) (T := TX3) (N := 19) hx hb hts h_inX3 tyX3 tyX3_ok nmX3 hown hK hP hD hS 0 rfl rfl 4 (by decide) k_0 (fun _ h9 => h9) rfl (by decide +kernel) rfl rfl (Nat.le_of_ble_eq_true rfl) dX3_dial_133 (fun H locs hP hD hS => ?_)
              have hP : va_P (dC, dI) vwCl (wM cI cJ cZ b (upd kd nd.toNatClampNeg p0) (vp_updL vl nd.toNatClampNeg (m_fitted (upd kd nd.toNatClampNeg p0) (vp_updL lo nd.toNatClampNeg p1) (vp_updL hi nd.toNatClampNeg p2) nd (0 : Int64))) (vp_updL lo nd.toNatClampNeg p1) (vp_updL hi nd.toNatClampNeg p2) (nd + (1 : Int32)) so fr tg gn nr kp ah kx st mo ma (0 : Int32) op nx) H := hP
              have hD : va_D A (wM cI cJ cZ b (upd kd nd.toNatClampNeg p0) (vp_updL vl nd.toNatClampNeg (m_fitted (upd kd nd.toNatClampNeg p0) (vp_updL lo nd.toNatClampNeg p1) (vp_updL hi nd.toNatClampNeg p2) nd (0 : Int64))) (vp_updL lo nd.toNatClampNeg p1) (vp_updL hi nd.toNatClampNeg p2) (nd + (1 : Int32)) so fr tg gn nr kp ah kx st mo ma (0 : Int32) op nx) := hD
              refine lv_aload_n hx hb dX3_dial_136 rfl (lv_at hl 0 rfl) ?_
              refine va_get (D := (dC, dI)) (ci := 2) (v := .int (nd + (1 : Int32))) (C := RX3) (T := TX3) (N := 19) hx hb hts h_inX3 hown hK hP 0 rfl rfl 4 (by decide) k_0 (fun _ h9 => h9) rfl dX3_dial_137 ?_
              refine lv_iconst (v := 1) hx hb dX3_dial_140 (by decide) ?_
              refine lv_isub hx hb dX3_dial_141 ?_
              exact W.iret (v := ((nd + (1 : Int32)) - (1 : Int32))) hx hb hr (fun t ht hW => ⟨⟨((nd + (1 : Int32)) - (1 : Int32)), ((upd kd nd.toNatClampNeg p0), (vp_updL vl nd.toNatClampNeg (m_fitted (upd kd nd.toNatClampNeg p0) (vp_updL lo nd.toNatClampNeg p1) (vp_updL hi nd.toNatClampNeg p2) nd (0 : Int64))), (vp_updL lo nd.toNatClampNeg p1), (vp_updL hi nd.toNatClampNeg p2), (nd + (1 : Int32)), so, fr, tg, gn, nr, kp, ah, kx, st, mo, ma, (0 : Int32), op, nx), rfl, (by unfold m_dial; rw [if_neg c_1, if_pos c_3, if_neg c_4, if_neg c_5, if_neg c_7, if_pos c_8]), by rw [ht]; exact hP, va_K.moved hW.alike hK, hD⟩, hS.F ht⟩) hS.2.2 dX3_dial_142
            · skip
              refine lv_aload_n hx hb dX3_dial_66 rfl (lv_at hl 0 rfl) ?_
              refine lv_iconst (v := 4) hx hb dX3_dial_67 (by decide) ?_
              have hFc := va_free (wc := (wM cI cJ cZ b kd vl lo hi nd so fr tg gn nr kp ah kx st mo ma fa op nx)) hD hS hA [0, 1, 2, 3, 4, 5, 6, 7, 8, 9, 10, 11, 12, 13] rfl
              refine va_calli (va_runV (As := [.int (4 : Int32)]) (rest := []) ⟨hx, hb, hml, hown, hts⟩ (c_X3_refused l dC dI cI cJ cZ b kd vl lo hi nd so fr tg gn nr kp ah kx st mo ma fa op nx (4 : Int32)  s.heap.size) (cwV 1 hts gX3_dial_X3_refused rfl rfl rfl (by decide +kernel) ⟨Nat.le_of_ble_eq_true rfl, Nat.le_of_ble_eq_true rfl⟩) (fb_m hK hP hD (va_recv hK hP (ci := 2) (q0 := 0) rfl rfl)) rfl rfl hl.1 rfl (lv_room (Nat.le_of_ble_eq_true rfl)) dX3_dial_68 ⟨Nat.zero_le _, Nat.zero_le _⟩) hS (fun q _ h => hFc q h) hFc (fun r_9 u t H1 locs ht hvm hw_9 hB hz1 hk1 hS => ?_)
              obtain ⟨kd_9, vl_9, lo_9, hi_9, nd_9, so_9, fr_9, tg_9, gn_9, nr_9, kp_9, ah_9, kx_9, st_9, mo_9, ma_9, fa_9, op_9, nx_9⟩ := u
              rw [m_refused_eq] at hw_9
              have hw_9 := hw_9.symm
              simp only [Prod.mk.injEq] at hw_9
              obtain ⟨rfl, rfl, rfl, rfl, rfl, rfl, rfl, rfl, rfl, rfl, rfl, rfl, rfl, rfl, rfl, rfl, rfl, rfl, rfl, rfl⟩ := hw_9
              obtain ⟨hP1, hK1, hD1⟩ := hB
              rw [ht] at hP1
              obtain ⟨hP, hD⟩ := va_join (wr := []) (w1 := (wM cI cJ cZ b kd vl lo hi nd so fr tg gn nr kp ah kx st mo ma (4 : Int32) op nx)) hP hD [0, 1, 2, 3, 4, 5, 6, 7, 8, 9, 10, 11, 12, 13] [] rfl rfl (by decide) (by decide) hk1 hFc hP1 hD1
              generalize H1 = H at hP hS ⊢
              have hP : va_P (dC, dI) vwCl (wM cI cJ cZ b kd vl lo hi nd so fr tg gn nr kp ah kx st mo ma (4 : Int32) op nx) H := hP
              have hD : va_D A (wM cI cJ cZ b kd vl lo hi nd so fr tg gn nr kp ah kx st mo ma (4 : Int32) op nx) := hD
              exact W.iret (v := (-1 : Int32)) hx hb hr (fun t ht hW => ⟨⟨(-1 : Int32), (kd, vl, lo, hi, nd, so, fr, tg, gn, nr, kp, ah, kx, st, mo, ma, (4 : Int32), op, nx), rfl, (by unfold m_dial; rw [if_neg c_1, if_pos c_3, if_neg c_4, if_neg c_5, if_neg c_7, if_neg c_8]), by rw [ht]; exact hP, va_K.moved hW.alike hK, hD⟩, hS.F ht⟩) hS.2.2 dX3_dial_71
          · skip
            refine lv_aload_n hx hb dX3_dial_49 rfl (lv_at hl 0 rfl) ?_
            refine lv_iconst (v := 3) hx hb dX3_dial_50 (by decide) ?_
            have hFc := va_free (wc := (wM cI cJ cZ b kd vl lo hi nd so fr tg gn nr kp ah kx st mo ma fa op nx)) hD hS hA [0, 1, 2, 3, 4, 5, 6, 7, 8, 9, 10, 11, 12, 13] rfl
            refine va_calli (va_runV (As := [.int (3 : Int32)]) (rest := []) ⟨hx, hb, hml, hown, hts⟩ (c_X3_refused l dC dI cI cJ cZ b kd vl lo hi nd so fr tg gn nr kp ah kx st mo ma fa op nx (3 : Int32)  s.heap.size) (cwV 1 hts gX3_dial_X3_refused rfl rfl rfl (by decide +kernel) ⟨Nat.le_of_ble_eq_true rfl, Nat.le_of_ble_eq_true rfl⟩) (fb_m hK hP hD (va_recv hK hP (ci := 2) (q0 := 0) rfl rfl)) rfl rfl hl.1 rfl (lv_room (Nat.le_of_ble_eq_true rfl)) dX3_dial_51 ⟨Nat.zero_le _, Nat.zero_le _⟩) hS (fun q _ h => hFc q h) hFc (fun r_10 u t H1 locs ht hvm hw_10 hB hz1 hk1 hS => ?_)
            obtain ⟨kd_10, vl_10, lo_10, hi_10, nd_10, so_10, fr_10, tg_10, gn_10, nr_10, kp_10, ah_10, kx_10, st_10, mo_10, ma_10, fa_10, op_10, nx_10⟩ := u
            rw [m_refused_eq] at hw_10
            have hw_10 := hw_10.symm
            simp only [Prod.mk.injEq] at hw_10
            obtain ⟨rfl, rfl, rfl, rfl, rfl, rfl, rfl, rfl, rfl, rfl, rfl, rfl, rfl, rfl, rfl, rfl, rfl, rfl, rfl, rfl⟩ := hw_10
            obtain ⟨hP1, hK1, hD1⟩ := hB
            rw [ht] at hP1
            obtain ⟨hP, hD⟩ := va_join (wr := []) (w1 := (wM cI cJ cZ b kd vl lo hi nd so fr tg gn nr kp ah kx st mo ma (3 : Int32) op nx)) hP hD [0, 1, 2, 3, 4, 5, 6, 7, 8, 9, 10, 11, 12, 13] [] rfl rfl (by decide) (by decide) hk1 hFc hP1 hD1
            generalize H1 = H at hP hS ⊢
            have hP : va_P (dC, dI) vwCl (wM cI cJ cZ b kd vl lo hi nd so fr tg gn nr kp ah kx st mo ma (3 : Int32) op nx) H := hP
            have hD : va_D A (wM cI cJ cZ b kd vl lo hi nd so fr tg gn nr kp ah kx st mo ma (3 : Int32) op nx) := hD
            exact W.iret (v := (-1 : Int32)) hx hb hr (fun t ht hW => ⟨⟨(-1 : Int32), (kd, vl, lo, hi, nd, so, fr, tg, gn, nr, kp, ah, kx, st, mo, ma, (3 : Int32), op, nx), rfl, (by unfold m_dial; rw [if_neg c_1, if_pos c_3, if_neg c_4, if_neg c_5, if_pos c_7]), by rw [ht]; exact hP, va_K.moved hW.alike hK, hD⟩, hS.F ht⟩) hS.2.2 dX3_dial_54
      · skip
        refine lv_aload_n hx hb dX3_dial_24 rfl (lv_at hl 0 rfl) ?_
        refine lv_iconst (v := 5) hx hb dX3_dial_25 (by decide) ?_
        have hFc := va_free (wc := (wM cI cJ cZ b kd vl lo hi nd so fr tg gn nr kp ah kx st mo ma fa op nx)) hD hS hA [0, 1, 2, 3, 4, 5, 6, 7, 8, 9, 10, 11, 12, 13] rfl
        refine va_calli (va_runV (As := [.int (5 : Int32)]) (rest := []) ⟨hx, hb, hml, hown, hts⟩ (c_X3_refused l dC dI cI cJ cZ b kd vl lo hi nd so fr tg gn nr kp ah kx st mo ma fa op nx (5 : Int32)  s.heap.size) (cwV 1 hts gX3_dial_X3_refused rfl rfl rfl (by decide +kernel) ⟨Nat.le_of_ble_eq_true rfl, Nat.le_of_ble_eq_true rfl⟩) (fb_m hK hP hD (va_recv hK hP (ci := 2) (q0 := 0) rfl rfl)) rfl rfl hl.1 rfl (lv_room (Nat.le_of_ble_eq_true rfl)) dX3_dial_26 ⟨Nat.zero_le _, Nat.zero_le _⟩) hS (fun q _ h => hFc q h) hFc (fun r_11 u t H1 locs ht hvm hw_11 hB hz1 hk1 hS => ?_)
        obtain ⟨kd_11, vl_11, lo_11, hi_11, nd_11, so_11, fr_11, tg_11, gn_11, nr_11, kp_11, ah_11, kx_11, st_11, mo_11, ma_11, fa_11, op_11, nx_11⟩ := u
        rw [m_refused_eq] at hw_11
        have hw_11 := hw_11.symm
        simp only [Prod.mk.injEq] at hw_11
        obtain ⟨rfl, rfl, rfl, rfl, rfl, rfl, rfl, rfl, rfl, rfl, rfl, rfl, rfl, rfl, rfl, rfl, rfl, rfl, rfl, rfl⟩ := hw_11
        obtain ⟨hP1, hK1, hD1⟩ := hB
        rw [ht] at hP1
        obtain ⟨hP, hD⟩ := va_join (wr := []) (w1 := (wM cI cJ cZ b kd vl lo hi nd so fr tg gn nr kp ah kx st mo ma (5 : Int32) op nx)) hP hD [0, 1, 2, 3, 4, 5, 6, 7, 8, 9, 10, 11, 12, 13] [] rfl rfl (by decide) (by decide) hk1 hFc hP1 hD1
        generalize H1 = H at hP hS ⊢
        have hP : va_P (dC, dI) vwCl (wM cI cJ cZ b kd vl lo hi nd so fr tg gn nr kp ah kx st mo ma (5 : Int32) op nx) H := hP
        have hD : va_D A (wM cI cJ cZ b kd vl lo hi nd so fr tg gn nr kp ah kx st mo ma (5 : Int32) op nx) := hD
        exact W.iret (v := (-1 : Int32)) hx hb hr (fun t ht hW => ⟨⟨(-1 : Int32), (kd, vl, lo, hi, nd, so, fr, tg, gn, nr, kp, ah, kx, st, mo, ma, (5 : Int32), op, nx), rfl, (by unfold m_dial; rw [if_neg c_1, if_pos c_3, if_pos c_4]), by rw [ht]; exact hP, va_K.moved hW.alike hK, hD⟩, hS.F ht⟩) hS.2.2 dX3_dial_29
    · skip
      refine lv_aload_n hx hb dX3_dial_9 rfl (lv_at hl 0 rfl) ?_
      refine lv_iconst (v := 2) hx hb dX3_dial_10 (by decide) ?_
      have hFc := va_free (wc := (wM cI cJ cZ b kd vl lo hi nd so fr tg gn nr kp ah kx st mo ma fa op nx)) hD hS hA [0, 1, 2, 3, 4, 5, 6, 7, 8, 9, 10, 11, 12, 13] rfl
      refine va_calli (va_runV (As := [.int (2 : Int32)]) (rest := []) ⟨hx, hb, hml, hown, hts⟩ (c_X3_refused l dC dI cI cJ cZ b kd vl lo hi nd so fr tg gn nr kp ah kx st mo ma fa op nx (2 : Int32)  s.heap.size) (cwV 1 hts gX3_dial_X3_refused rfl rfl rfl (by decide +kernel) ⟨Nat.le_of_ble_eq_true rfl, Nat.le_of_ble_eq_true rfl⟩) (fb_m hK hP hD (va_recv hK hP (ci := 2) (q0 := 0) rfl rfl)) rfl rfl hl.1 rfl (lv_room (Nat.le_of_ble_eq_true rfl)) dX3_dial_11 ⟨Nat.zero_le _, Nat.zero_le _⟩) hS (fun q _ h => hFc q h) hFc (fun r_12 u t H1 locs ht hvm hw_12 hB hz1 hk1 hS => ?_)
      obtain ⟨kd_12, vl_12, lo_12, hi_12, nd_12, so_12, fr_12, tg_12, gn_12, nr_12, kp_12, ah_12, kx_12, st_12, mo_12, ma_12, fa_12, op_12, nx_12⟩ := u
      rw [m_refused_eq] at hw_12
      have hw_12 := hw_12.symm
      simp only [Prod.mk.injEq] at hw_12
      obtain ⟨rfl, rfl, rfl, rfl, rfl, rfl, rfl, rfl, rfl, rfl, rfl, rfl, rfl, rfl, rfl, rfl, rfl, rfl, rfl, rfl⟩ := hw_12
      obtain ⟨hP1, hK1, hD1⟩ := hB
      rw [ht] at hP1
      obtain ⟨hP, hD⟩ := va_join (wr := []) (w1 := (wM cI cJ cZ b kd vl lo hi nd so fr tg gn nr kp ah kx st mo ma (2 : Int32) op nx)) hP hD [0, 1, 2, 3, 4, 5, 6, 7, 8, 9, 10, 11, 12, 13] [] rfl rfl (by decide) (by decide) hk1 hFc hP1 hD1
      generalize H1 = H at hP hS ⊢
      have hP : va_P (dC, dI) vwCl (wM cI cJ cZ b kd vl lo hi nd so fr tg gn nr kp ah kx st mo ma (2 : Int32) op nx) H := hP
      have hD : va_D A (wM cI cJ cZ b kd vl lo hi nd so fr tg gn nr kp ah kx st mo ma (2 : Int32) op nx) := hD
      exact W.iret (v := (-1 : Int32)) hx hb hr (fun t ht hW => ⟨⟨(-1 : Int32), (kd, vl, lo, hi, nd, so, fr, tg, gn, nr, kp, ah, kx, st, mo, ma, (2 : Int32), op, nx), rfl, (by unfold m_dial; rw [if_neg c_1, if_neg c_3]), by rw [ht]; exact hP, va_K.moved hW.alike hK, hD⟩, hS.F ht⟩) hS.2.2 dX3_dial_14
def m_rod (kd : Nat → Int32) (vl : Nat → Int64) (lo : Nat → Int64) (hi : Nat → Int64) (nd : Int32) (so : Nat → Int32) (fr : Nat → Int32) (tg : Nat → Int32) (gn : Nat → Int32) (nr : Int32) (kp : Nat → Int64) (ah : Nat → Int64) (kx : Nat → Int32) (st : Int32) (mo : Int32) (ma : Int32) (fa : Int32) (op : Nat → Int32) (nx : Nat → Int32) (p0 : Int32) (p1 : Int32) (p2 : Int32) : Int32 × MS :=
  if p0 < 0 then ((-1 : Int32), kd, vl, lo, hi, nd, so, fr, tg, gn, nr, kp, ah, kx, st, mo, ma, (2 : Int32), op, nx)
  else if p0 ≤ (3 : Int32) then (if (m_isDial nd p1) = 0 then ((-1 : Int32), kd, vl, lo, hi, nd, so, fr, tg, gn, nr, kp, ah, kx, st, mo, ma, (1 : Int32), op, nx)
      else if (m_isDial nd p2) = 0 then ((-1 : Int32), kd, vl, lo, hi, nd, so, fr, tg, gn, nr, kp, ah, kx, st, mo, ma, (1 : Int32), op, nx)
        else if (m_reason kd p0 p1 p2) ≤ 0 then (if nr = (24 : Int32) then ((-1 : Int32), kd, vl, lo, hi, nd, so, fr, tg, gn, nr, kp, ah, kx, st, mo, ma, (5 : Int32), op, nx)
            else (((nr + (1 : Int32)) - (1 : Int32)), kd, vl, lo, hi, nd, (upd so nr.toNatClampNeg p0), (upd fr nr.toNatClampNeg p1), (upd tg nr.toNatClampNeg p2), gn, (nr + (1 : Int32)), kp, ah, kx, st, mo, ma, (0 : Int32), op, nx))
          else ((-1 : Int32), kd, vl, lo, hi, nd, so, fr, tg, gn, nr, kp, ah, kx, st, mo, ma, (m_reason kd p0 p1 p2), op, nx))
    else ((-1 : Int32), kd, vl, lo, hi, nd, so, fr, tg, gn, nr, kp, ah, kx, st, mo, ma, (2 : Int32), op, nx)
set_option maxHeartbeats 4000000 in
set_option maxRecDepth 100000 in
theorem c_X3_rod (l : Launch) (dC : Nat → ClassId) (dI : Nat → Nat → Nat) (cI cJ cZ : ClassId) (b : Nat → Nat) (kd : Nat → Int32) (vl : Nat → Int64) (lo : Nat → Int64) (hi : Nat → Int64) (nd : Int32) (so : Nat → Int32) (fr : Nat → Int32) (tg : Nat → Int32) (gn : Nat → Int32) (nr : Int32) (kp : Nat → Int64) (ah : Nat → Int64) (kx : Nat → Int32) (st : Int32) (mo : Int32) (ma : Int32) (fa : Int32) (op : Nat → Int32) (nx : Nat → Int32) (p0 : Int32) (p1 : Int32) (p2 : Int32) (hn : 0 ≤ nd ∧ nd ≤ 16) (hnr : 0 ≤ nr ∧ nr ≤ 24) (sz : Nat) : Met l yX3_rod wsX3_rod ({ frames := 2, cells := 0, slots := 0, locals := 44 }) (va_Pc [.ref (b 0), .int p0, .int p1, .int p2] (fun U => U.heap.size = sz ∧ va_P (dC, dI) vwCl (wM cI cJ cZ b kd vl lo hi nd so fr tg gn nr kp ah kx st mo ma fa op nx) U.heap ∧ va_K (dC, dI) vwCl (tA cI cJ cZ) U ∧ va_D (fun _ => True) (wM cI cJ cZ b kd vl lo hi nd so fr tg gn nr kp ah kx st mo ma fa op nx))) (va_Qi (fun (r : Int32) (u : MS) => (r, u) = m_rod kd vl lo hi nd so fr tg gn nr kp ah kx st mo ma fa op nx p0 p1 p2) (at_M dC dI cI cJ cZ (va_A (wM cI cJ cZ b kd vl lo hi nd so fr tg gn nr kp ah kx st mo ma fa op nx) sz) b) (va_A (wM cI cJ cZ b kd vl lo hi nd so fr tg gn nr kp ah kx st mo ma fa op nx) sz)) 0 0 (va_A (wM cI cJ cZ b kd vl lo hi nd so fr tg gn nr kp ah kx st mo ma fa op nx) sz) := by
  refine Met.ofW (cc := cX3_rod) (maxL := 5) (ret := (some .int)) (by decide) rfl ?_
  intro p e s m args below meth c s₁ B hml hv
  obtain ⟨rfl, hsz, hP, hK, hD0⟩ := hv
  subst hsz
  have hD := hD0.self (sz := s.heap.size)
  generalize hAe : va_A (wM cI cJ cZ b kd vl lo hi nd so fr tg gn nr kp ah kx st mo ma fa op nx) s.heap.size = A at hD ⊢
  have hA : ∀ q : Nat, s.heap.size ≤ q → A q := fun q h => by rw [← hAe]; exact Or.inr h
  have hS : va_S A s.heap s.heap [] := va_S.rf
  have hP : va_P (dC, dI) vwCl (wM cI cJ cZ b kd vl lo hi nd so fr tg gn nr kp ah kx st mo ma fa op nx) s.heap := hP
  have hx := B.exec
  have hb := B.bytes
  have hr := B.returns
  have hts := atoms_spec (ws := wsX3_rod) B.pre
  have hown : s.vm.findClass RX3 = some m.cls := findClass_of_methodNamed B.named
  have hlocks := B.notSynchronized
  have h_inX3 : ∀ w ∈ wsX30, w ∈ wsX3_rod := fun _ h => List.mem_cons_of_mem _ (List.mem_append_right _ h)
  have k_0 := hts (.fieldLink RX3 126 "DetentCabinetModel" "rods" "I") (by decide +kernel)
  have k_1 := hts (.fieldLink RX3 55 "DetentCabinetModel" "fault" "I") (by decide +kernel)
  have k_2 := hts (.fieldLink RX3 23 "DetentCabinetModel" "sort" "[I") (by decide +kernel)
  have k_3 := hts (.fieldLink RX3 26 "DetentCabinetModel" "from" "[I") (by decide +kernel)
  have k_4 := hts (.fieldLink RX3 29 "DetentCabinetModel" "to" "[I") (by decide +kernel)
  have hl := lv_entry ([.ref (b 0), .int p0, .int p1, .int p2]) (n := 5) (Nat.le_of_ble_eq_true rfl)
  rw [lg_entry_eq]
  generalize (lg_sl ([.ref (b 0), .int p0, .int p1, .int p2]) ++ List.replicate (5 - (lg_sl ([.ref (b 0), .int p0, .int p1, .int p2])).length) Slot.unset).toArray = ls at hl ⊢
  have hl : lv_has ls 5 [(0, .ref (b 0)), (1, .int p0), (2, .int p1), (3, .int p2)] := hl
  refine lv_iload_n hx hb dX3_rod_0 rfl (lv_at hl 1 rfl) ?_
  refine lv_if_lt (tgt := 9) hx hb dX3_rod_1 (by decide) (fun c_1 => ?_) (fun c_1 => ?_)
  · skip
    refine lv_aload_n hx hb dX3_rod_9 rfl (lv_at hl 0 rfl) ?_
    refine lv_iconst (v := 2) hx hb dX3_rod_10 (by decide) ?_
    have hFc := va_free (wc := (wM cI cJ cZ b kd vl lo hi nd so fr tg gn nr kp ah kx st mo ma fa op nx)) hD hS hA [0, 1, 2, 3, 4, 5, 6, 7, 8, 9, 10, 11, 12, 13] rfl
    refine va_calli (va_runV (As := [.int (2 : Int32)]) (rest := []) ⟨hx, hb, hml, hown, hts⟩ (c_X3_refused l dC dI cI cJ cZ b kd vl lo hi nd so fr tg gn nr kp ah kx st mo ma fa op nx (2 : Int32)  s.heap.size) (cwV 1 hts gX3_rod_X3_refused rfl rfl rfl (by decide +kernel) ⟨Nat.le_of_ble_eq_true rfl, Nat.le_of_ble_eq_true rfl⟩) (fb_m hK hP hD (va_recv hK hP (ci := 2) (q0 := 0) rfl rfl)) rfl rfl hl.1 rfl (lv_room (Nat.le_of_ble_eq_true rfl)) dX3_rod_11 ⟨Nat.zero_le _, Nat.zero_le _⟩) hS (fun q _ h => hFc q h) hFc (fun r_2 u t H1 locs ht hvm hw_2 hB hz1 hk1 hS => ?_)
    obtain ⟨kd_2, vl_2, lo_2, hi_2, nd_2, so_2, fr_2, tg_2, gn_2, nr_2, kp_2, ah_2, kx_2, st_2, mo_2, ma_2, fa_2, op_2, nx_2⟩ := u
    rw [m_refused_eq] at hw_2
    have hw_2 := hw_2.symm
    simp only [Prod.mk.injEq] at hw_2
    obtain ⟨rfl, rfl, rfl, rfl, rfl, rfl, rfl, rfl, rfl, rfl, rfl, rfl, rfl, rfl, rfl, rfl, rfl, rfl, rfl, rfl⟩ := hw_2
    obtain ⟨hP1, hK1, hD1⟩ := hB
    rw [ht] at hP1
    obtain ⟨hP, hD⟩ := va_join (wr := []) (w1 := (wM cI cJ cZ b kd vl lo hi nd so fr tg gn nr kp ah kx st mo ma (2 : Int32) op nx)) hP hD [0, 1, 2, 3, 4, 5, 6, 7, 8, 9, 10, 11, 12, 13] [] rfl rfl (by decide) (by decide) hk1 hFc hP1 hD1
    generalize H1 = H at hP hS ⊢
    have hP : va_P (dC, dI) vwCl (wM cI cJ cZ b kd vl lo hi nd so fr tg gn nr kp ah kx st mo ma (2 : Int32) op nx) H := hP
    have hD : va_D A (wM cI cJ cZ b kd vl lo hi nd so fr tg gn nr kp ah kx st mo ma (2 : Int32) op nx) := hD
    exact W.iret (v := (-1 : Int32)) hx hb hr (fun t ht hW => ⟨⟨(-1 : Int32), (kd, vl, lo, hi, nd, so, fr, tg, gn, nr, kp, ah, kx, st, mo, ma, (2 : Int32), op, nx), rfl, (by unfold m_rod; rw [if_pos c_1]), by rw [ht]; exact hP, va_K.moved hW.alike hK, hD⟩, hS.F ht⟩) hS.2.2 dX3_rod_14
  · skip
    refine lv_iload_n hx hb dX3_rod_4 rfl (lv_at hl 1 rfl) ?_
    refine lv_iconst (v := 3) hx hb dX3_rod_5 (by decide) ?_
    refine lv_icmp_le (tgt := 15) hx hb dX3_rod_6 (by decide) (fun c_3 => ?_) (fun c_3 => ?_)
    · skip
      refine lv_aload_n hx hb dX3_rod_15 rfl (lv_at hl 0 rfl) ?_
      refine lv_iload_n hx hb dX3_rod_16 rfl (lv_at hl 2 rfl) ?_
      refine cs_i (W.runV (As := [.int p1]) (rest := []) ⟨hx, hb, hml, hown, hts⟩ (c_X3_isDial l dC dI cI cJ cZ b kd vl lo hi nd so fr tg gn nr kp ah kx st mo ma fa op nx p1 ) (cwV 1 hts gX3_rod_X3_isDial rfl rfl rfl (by decide +kernel) ⟨Nat.le_of_ble_eq_true rfl, Nat.le_of_ble_eq_true rfl⟩) (fb_v hK hP (va_recv hK hP (ci := 2) (q0 := 0) rfl rfl)) rfl rfl hl.1 rfl (lv_room (Nat.le_of_ble_eq_true rfl)) dX3_rod_17 ⟨Nat.zero_le _, Nat.zero_le _⟩) ?_
      refine lv_if_eq (tgt := 31) hx hb dX3_rod_20 (by decide) (fun c_4 => ?_) (fun c_4 => ?_)
      · skip
        refine lv_aload_n hx hb dX3_rod_31 rfl (lv_at hl 0 rfl) ?_
        refine lv_iconst (v := 1) hx hb dX3_rod_32 (by decide) ?_
        have hFc := va_free (wc := (wM cI cJ cZ b kd vl lo hi nd so fr tg gn nr kp ah kx st mo ma fa op nx)) hD hS hA [0, 1, 2, 3, 4, 5, 6, 7, 8, 9, 10, 11, 12, 13] rfl
        refine va_calli (va_runV (As := [.int (1 : Int32)]) (rest := []) ⟨hx, hb, hml, hown, hts⟩ (c_X3_refused l dC dI cI cJ cZ b kd vl lo hi nd so fr tg gn nr kp ah kx st mo ma fa op nx (1 : Int32)  s.heap.size) (cwV 1 hts gX3_rod_X3_refused rfl rfl rfl (by decide +kernel) ⟨Nat.le_of_ble_eq_true rfl, Nat.le_of_ble_eq_true rfl⟩) (fb_m hK hP hD (va_recv hK hP (ci := 2) (q0 := 0) rfl rfl)) rfl rfl hl.1 rfl (lv_room (Nat.le_of_ble_eq_true rfl)) dX3_rod_33 ⟨Nat.zero_le _, Nat.zero_le _⟩) hS (fun q _ h => hFc q h) hFc (fun r_5 u t H1 locs ht hvm hw_5 hB hz1 hk1 hS => ?_)
        obtain ⟨kd_5, vl_5, lo_5, hi_5, nd_5, so_5, fr_5, tg_5, gn_5, nr_5, kp_5, ah_5, kx_5, st_5, mo_5, ma_5, fa_5, op_5, nx_5⟩ := u
        rw [m_refused_eq] at hw_5
        have hw_5 := hw_5.symm
        simp only [Prod.mk.injEq] at hw_5
        obtain ⟨rfl, rfl, rfl, rfl, rfl, rfl, rfl, rfl, rfl, rfl, rfl, rfl, rfl, rfl, rfl, rfl, rfl, rfl, rfl, rfl⟩ := hw_5
        obtain ⟨hP1, hK1, hD1⟩ := hB
        rw [ht] at hP1
        obtain ⟨hP, hD⟩ := va_join (wr := []) (w1 := (wM cI cJ cZ b kd vl lo hi nd so fr tg gn nr kp ah kx st mo ma (1 : Int32) op nx)) hP hD [0, 1, 2, 3, 4, 5, 6, 7, 8, 9, 10, 11, 12, 13] [] rfl rfl (by decide) (by decide) hk1 hFc hP1 hD1
        generalize H1 = H at hP hS ⊢
        have hP : va_P (dC, dI) vwCl (wM cI cJ cZ b kd vl lo hi nd so fr tg gn nr kp ah kx st mo ma (1 : Int32) op nx) H := hP
        have hD : va_D A (wM cI cJ cZ b kd vl lo hi nd so fr tg gn nr kp ah kx st mo ma (1 : Int32) op nx) := hD
        exact W.iret (v := (-1 : Int32)) hx hb hr (fun t ht hW => ⟨⟨(-1 : Int32), (kd, vl, lo, hi, nd, so, fr, tg, gn, nr, kp, ah, kx, st, mo, ma, (1 : Int32), op, nx), rfl, (by unfold m_rod; rw [if_neg c_1, if_pos c_3, if_pos c_4]), by rw [ht]; exact hP, va_K.moved hW.alike hK, hD⟩, hS.F ht⟩) hS.2.2 dX3_rod_36
      · skip
        refine lv_aload_n hx hb dX3_rod_23 rfl (lv_at hl 0 rfl) ?_
        refine lv_iload_n hx hb dX3_rod_24 rfl (lv_at hl 3 rfl) ?_
        refine cs_i (W.runV (As := [.int p2]) (rest := []) ⟨hx, hb, hml, hown, hts⟩ (c_X3_isDial l dC dI cI cJ cZ b kd vl lo hi nd so fr tg gn nr kp ah kx st mo ma fa op nx p2 ) (cwV 1 hts gX3_rod_X3_isDial rfl rfl rfl (by decide +kernel) ⟨Nat.le_of_ble_eq_true rfl, Nat.le_of_ble_eq_true rfl⟩) (fb_v hK hP (va_recv hK hP (ci := 2) (q0 := 0) rfl rfl)) rfl rfl hl.1 rfl (lv_room (Nat.le_of_ble_eq_true rfl)) dX3_rod_25 ⟨Nat.zero_le _, Nat.zero_le _⟩) ?_
        refine lv_if_ne (tgt := 37) hx hb dX3_rod_28 (by decide) (fun c_6 => ?_) (fun c_6 => ?_)
        · skip
          refine lv_aload_n hx hb dX3_rod_37 rfl (lv_at hl 0 rfl) ?_
          refine lv_iload_n hx hb dX3_rod_38 rfl (lv_at hl 1 rfl) ?_
          refine lv_iload_n hx hb dX3_rod_39 rfl (lv_at hl 2 rfl) ?_
          refine lv_iload_n hx hb dX3_rod_40 rfl (lv_at hl 3 rfl) ?_
          refine cs_i (W.runV (As := [.int p0, .int p1, .int p2]) (rest := []) ⟨hx, hb, hml, hown, hts⟩ (c_X3_reason l dC dI cI cJ cZ b kd vl lo hi nd so fr tg gn nr kp ah kx st mo ma fa op nx p0 p1 p2 (in_dm hn.2 (by assumption)) (in_dm hn.2 (by assumption))) (cwV 3 hts gX3_rod_X3_reason rfl rfl rfl (by decide +kernel) ⟨Nat.le_of_ble_eq_true rfl, Nat.le_of_ble_eq_true rfl⟩) (fb_v hK hP (va_recv hK hP (ci := 2) (q0 := 0) rfl rfl)) rfl rfl hl.1 rfl (lv_room (Nat.le_of_ble_eq_true rfl)) dX3_rod_41 ⟨Nat.zero_le _, Nat.zero_le _⟩) ?_
          refine lv_istore (lv' := [(4, .int (m_reason kd p0 p1 p2)), (0, .ref (b 0)), (1, .int p0), (2, .int p1), (3, .int p2)]) hx hb dX3_rod_44 hl (by decide) rfl (fun ls hl => ?_)
          refine lv_iload hx hb dX3_rod_46 (lv_at hl 0 rfl) ?_
          refine lv_if_le (tgt := 58) hx hb dX3_rod_48 (by decide) (fun c_7 => ?_) (fun c_7 => ?_)
          · skip
            refine lv_aload_n hx hb dX3_rod_58 rfl (lv_at hl 1 rfl) ?_
            refine va_get (D := (dC, dI)) (ci := 2) (v := .int nr) (C := RX3) (T := TX3) (N := 19) hx hb hts h_inX3 hown hK hP 0 rfl rfl 9 (by decide) k_0 (fun _ h9 => h9) rfl dX3_rod_59 ?_
            refine lv_bipush (v := 24) hx hb dX3_rod_62 (by decide) ?_
            refine lv_icmp_ne (tgt := 73) hx hb dX3_rod_64 (by decide) (fun c_8 => ?_) (fun c_8 => ?_)
            · skip
              refine lv_aload_n hx hb dX3_rod_73 rfl (lv_at hl 1 rfl) ?_
              refine lv_iconst (v := 0) hx hb dX3_rod_74 (by decide) ?_
              refine va_put (D := (dC, dI)) (ci := 2) (v := .int (0 : Int32)) (ty := .int) (C := RX3) (T := TX3) (N := 19) hx hb hts h_inX3 tyX3 tyX3_ok nmX3 hown hK hP hD hS 0 rfl rfl 16 (by decide) k_1 (fun _ h9 => h9) rfl (by decide +kernel) rfl rfl (Nat.le_of_ble_eq_true rfl) dX3_rod_75 (fun H locs hP hD hS => ?_)
              have hP : va_P (dC, dI) vwCl (wM cI cJ cZ b kd vl lo hi nd so fr tg gn nr kp ah kx st mo ma (0 : Int32) op nx) H := hP
              have hD : va_D A (wM cI cJ cZ b kd vl lo hi nd so fr tg gn nr kp ah kx st mo ma (0 : Int32) op nx) := hD
              refine lv_aload_n hx hb dX3_rod_78 rfl (lv_at hl 1 rfl) ?_
              refine va_get (D := (dC, dI)) (ci := 2) (v := .ref (b 5)) (C := RX3) (T := TX3) (N := 19) hx hb hts h_inX3 hown hK hP 0 rfl rfl 5 (by decide) k_2 (fun _ h9 => h9) rfl dX3_rod_79 ?_
              refine lv_aload_n hx hb dX3_rod_82 rfl (lv_at hl 1 rfl) ?_
              refine va_get (D := (dC, dI)) (ci := 2) (v := .int nr) (C := RX3) (T := TX3) (N := 19) hx hb hts h_inX3 hown hK hP 0 rfl rfl 9 (by decide) k_0 (fun _ h9 => h9) rfl dX3_rod_83 ?_
              refine lv_iload_n hx hb dX3_rod_86 rfl (lv_at hl 2 rfl) ?_
              refine va_iast hx hb hK hP hD hS 5 0 rfl rfl (in_nr hnr (by assumption)) dX3_rod_87 (fun H locs hP hD hS => ?_)
              have hP : va_P (dC, dI) vwCl (wM cI cJ cZ b kd vl lo hi nd (upd so nr.toNatClampNeg p0) fr tg gn nr kp ah kx st mo ma (0 : Int32) op nx) H := hP
              have hD : va_D A (wM cI cJ cZ b kd vl lo hi nd (upd so nr.toNatClampNeg p0) fr tg gn nr kp ah kx st mo ma (0 : Int32) op nx) := hD
              refine lv_aload_n hx hb dX3_rod_88 rfl (lv_at hl 1 rfl) ?_
              refine va_get (D := (dC, dI)) (ci := 2) (v := .ref (b 6)) (C := RX3) (T := TX3) (N := 19) hx hb hts h_inX3 hown hK hP 0 rfl rfl 6 (by decide) k_3 (fun _ h9 => h9) rfl dX3_rod_89 ?_
              refine lv_aload_n hx hb dX3_rod_92 rfl (lv_at hl 1 rfl) ?_
              refine va_get (D := (dC, dI)) (ci := 2) (v := .int nr) (C := RX3) (T := TX3) (N := 19) hx hb hts h_inX3 hown hK hP 0 rfl rfl 9 (by decide) k_0 (fun _ h9 => h9) rfl dX3_rod_93 ?_
              refine lv_iload_n hx hb dX3_rod_96 rfl (lv_at hl 3 rfl) ?_
              refine va_iast hx hb hK hP hD hS 6 0 rfl rfl (in_nr hnr (by assumption)) dX3_rod_97 (fun H locs hP hD hS => ?_)
              have hP : va_P (dC, dI) vwCl (wM cI cJ cZ b kd vl lo hi nd (upd so nr.toNatClampNeg p0) (upd fr nr.toNatClampNeg p1) tg gn nr kp ah kx st mo ma (0 : Int32) op nx) H := hP
              have hD : va_D A (wM cI cJ cZ b kd vl lo hi nd (upd so nr.toNatClampNeg p0) (upd fr nr.toNatClampNeg p1) tg gn nr kp ah kx st mo ma (0 : Int32) op nx) := hD
              refine lv_aload_n hx hb dX3_rod_98 rfl (lv_at hl 1 rfl) ?_
              refine va_get (D := (dC, dI)) (ci := 2) (v := .ref (b 7)) (C := RX3) (T := TX3) (N := 19) hx hb hts h_inX3 hown hK hP 0 rfl rfl 7 (by decide) k_4 (fun _ h9 => h9) rfl dX3_rod_99 ?_
              refine lv_aload_n hx hb dX3_rod_102 rfl (lv_at hl 1 rfl) ?_
              refine va_get (D := (dC, dI)) (ci := 2) (v := .int nr) (C := RX3) (T := TX3) (N := 19) hx hb hts h_inX3 hown hK hP 0 rfl rfl 9 (by decide) k_0 (fun _ h9 => h9) rfl dX3_rod_103 ?_
              refine lv_iload_n hx hb dX3_rod_106 rfl (lv_at hl 4 rfl) ?_
              refine va_iast hx hb hK hP hD hS 7 0 rfl rfl (in_nr hnr (by assumption)) dX3_rod_107 (fun H locs hP hD hS => ?_)
              have hP : va_P (dC, dI) vwCl (wM cI cJ cZ b kd vl lo hi nd (upd so nr.toNatClampNeg p0) (upd fr nr.toNatClampNeg p1) (upd tg nr.toNatClampNeg p2) gn nr kp ah kx st mo ma (0 : Int32) op nx) H := hP
              have hD : va_D A (wM cI cJ cZ b kd vl lo hi nd (upd so nr.toNatClampNeg p0) (upd fr nr.toNatClampNeg p1) (upd tg nr.toNatClampNeg p2) gn nr kp ah kx st mo ma (0 : Int32) op nx) := hD
              refine lv_aload_n hx hb dX3_rod_108 rfl (lv_at hl 1 rfl) ?_
              refine lv_dup hx hb dX3_rod_109 rfl ?_
              refine va_get (D := (dC, dI)) (ci := 2) (v := .int nr) (C := RX3) (T := TX3) (N := 19) hx hb hts h_inX3 hown hK hP 0 rfl rfl 9 (by decide) k_0 (fun _ h9 => h9) rfl dX3_rod_110 ?_
              refine lv_iconst (v := 1) hx hb dX3_rod_113 (by decide) ?_
              refine lv_iadd hx hb dX3_rod_114 ?_
              refine va_put (D := (dC, dI)) (ci := 2) (v := .int (nr + (1 : Int32))) (ty := .int) (C := RX3) (T := TX3) (N := 19) hx hb hts h_inX3 tyX3 tyX3_ok nmX3 hown hK hP hD hS 0 rfl rfl 9 (by decide) k_0 (fun _ h9 => h9) rfl (by decide +kernel) rfl rfl (Nat.le_of_ble_eq_true rfl) dX3_rod_115 (fun H locs hP hD hS => ?_)
              have hP : va_P (dC, dI) vwCl (wM cI cJ cZ b kd vl lo hi nd (upd so nr.toNatClampNeg p0) (upd fr nr.toNatClampNeg p1) (upd tg nr.toNatClampNeg p2) gn (nr + (1 : Int32)) kp ah kx st mo ma (0 : Int32) op nx) H := hP
              have hD : va_D A (wM cI cJ cZ b kd vl lo hi nd (upd so nr.toNatClampNeg p0) (upd fr nr.toNatClampNeg p1) (upd tg nr.toNatClampNeg p2) gn (nr + (1 : Int32)) kp ah kx st mo ma (0 : Int32) op nx) := hD
              refine lv_aload_n hx hb dX3_rod_118 rfl (lv_at hl 1 rfl) ?_
              refine va_get (D := (dC, dI)) (ci := 2) (v := .int (nr + (1 : Int32))) (C := RX3) (T := TX3) (N := 19) hx hb hts h_inX3 hown hK hP 0 rfl rfl 9 (by decide) k_0 (fun _ h9 => h9) rfl dX3_rod_119 ?_
              refine lv_iconst (v := 1) hx hb dX3_rod_122 (by decide) ?_
              refine lv_isub hx hb dX3_rod_123 ?_
              exact W.iret (v := ((nr + (1 : Int32)) - (1 : Int32))) hx hb hr (fun t ht hW => ⟨⟨((nr + (1 : Int32)) - (1 : Int32)), (kd, vl, lo, hi, nd, (upd so nr.toNatClampNeg p0), (upd fr nr.toNatClampNeg p1), (upd tg nr.toNatClampNeg p2), gn, (nr + (1 : Int32)), kp, ah, kx, st, mo, ma, (0 : Int32), op, nx), rfl, (by unfold m_rod; rw [if_neg c_1, if_pos c_3, if_neg c_4, if_neg c_6, if_pos c_7, if_neg c_8]), by rw [ht]; exact hP, va_K.moved hW.alike hK, hD⟩, hS.F ht⟩) hS.2.2 dX3_rod_124
            · skip
              refine lv_aload_n hx hb dX3_rod_67 rfl (lv_at hl 1 rfl) ?_
              refine lv_iconst (v := 5) hx hb dX3_rod_68 (by decide) ?_
              have hFc := va_free (wc := (wM cI cJ cZ b kd vl lo hi nd so fr tg gn nr kp ah kx st mo ma fa op nx)) hD hS hA [0, 1, 2, 3, 4, 5, 6, 7, 8, 9, 10, 11, 12, 13] rfl
              refine va_calli (va_runV (As := [.int (5 : Int32)]) (rest := []) ⟨hx, hb, hml, hown, hts⟩ (c_X3_refused l dC dI cI cJ cZ b kd vl lo hi nd so fr tg gn nr kp ah kx st mo ma fa op nx (5 : Int32)  s.heap.size) (cwV 1 hts gX3_rod_X3_refused rfl rfl rfl (by decide +kernel) ⟨Nat.le_of_ble_eq_true rfl, Nat.le_of_ble_eq_true rfl⟩) (fb_m hK hP hD (va_recv hK hP (ci := 2) (q0 := 0) rfl rfl)) rfl rfl hl.1 rfl (lv_room (Nat.le_of_ble_eq_true rfl)) dX3_rod_69 ⟨Nat.zero_le _, Nat.zero_le _⟩) hS (fun q _ h => hFc q h) hFc (fun r_9 u t H1 locs ht hvm hw_9 hB hz1 hk1 hS => ?_)
              obtain ⟨kd_9, vl_9, lo_9, hi_9, nd_9, so_9, fr_9, tg_9, gn_9, nr_9, kp_9, ah_9, kx_9, st_9, mo_9, ma_9, fa_9, op_9, nx_9⟩ := u
              rw [m_refused_eq] at hw_9
              have hw_9 := hw_9.symm
              simp only [Prod.mk.injEq] at hw_9
              obtain ⟨rfl, rfl, rfl, rfl, rfl, rfl, rfl, rfl, rfl, rfl, rfl, rfl, rfl, rfl, rfl, rfl, rfl, rfl, rfl, rfl⟩ := hw_9
              obtain ⟨hP1, hK1, hD1⟩ := hB
              rw [ht] at hP1
              obtain ⟨hP, hD⟩ := va_join (wr := []) (w1 := (wM cI cJ cZ b kd vl lo hi nd so fr tg gn nr kp ah kx st mo ma (5 : Int32) op nx)) hP hD [0, 1, 2, 3, 4, 5, 6, 7, 8, 9, 10, 11, 12, 13] [] rfl rfl (by decide) (by decide) hk1 hFc hP1 hD1
              generalize H1 = H at hP hS ⊢
              have hP : va_P (dC, dI) vwCl (wM cI cJ cZ b kd vl lo hi nd so fr tg gn nr kp ah kx st mo ma (5 : Int32) op nx) H := hP
              have hD : va_D A (wM cI cJ cZ b kd vl lo hi nd so fr tg gn nr kp ah kx st mo ma (5 : Int32) op nx) := hD
              exact W.iret (v := (-1 : Int32)) hx hb hr (fun t ht hW => ⟨⟨(-1 : Int32), (kd, vl, lo, hi, nd, so, fr, tg, gn, nr, kp, ah, kx, st, mo, ma, (5 : Int32), op, nx), rfl, (by unfold m_rod; rw [if_neg c_1, if_pos c_3, if_neg c_4, if_neg c_6, if_pos c_7, if_pos c_8]), by rw [ht]; exact hP, va_K.moved hW.alike hK, hD⟩, hS.F ht⟩) hS.2.2 dX3_rod_72
          · skip
            refine lv_aload_n hx hb dX3_rod_51 rfl (lv_at hl 1 rfl) ?_
            refine lv_iload hx hb dX3_rod_52 (lv_at hl 0 rfl) ?_
            have hFc := va_free (wc := (wM cI cJ cZ b kd vl lo hi nd so fr tg gn nr kp ah kx st mo ma fa op nx)) hD hS hA [0, 1, 2, 3, 4, 5, 6, 7, 8, 9, 10, 11, 12, 13] rfl
            refine va_calli (va_runV (As := [.int (m_reason kd p0 p1 p2)]) (rest := []) ⟨hx, hb, hml, hown, hts⟩ (c_X3_refused l dC dI cI cJ cZ b kd vl lo hi nd so fr tg gn nr kp ah kx st mo ma fa op nx (m_reason kd p0 p1 p2)  s.heap.size) (cwV 1 hts gX3_rod_X3_refused rfl rfl rfl (by decide +kernel) ⟨Nat.le_of_ble_eq_true rfl, Nat.le_of_ble_eq_true rfl⟩) (fb_m hK hP hD (va_recv hK hP (ci := 2) (q0 := 0) rfl rfl)) rfl rfl hl.1 rfl (lv_room (Nat.le_of_ble_eq_true rfl)) dX3_rod_54 ⟨Nat.zero_le _, Nat.zero_le _⟩) hS (fun q _ h => hFc q h) hFc (fun r_10 u t H1 locs ht hvm hw_10 hB hz1 hk1 hS => ?_)
            obtain ⟨kd_10, vl_10, lo_10, hi_10, nd_10, so_10, fr_10, tg_10, gn_10, nr_10, kp_10, ah_10, kx_10, st_10, mo_10, ma_10, fa_10, op_10, nx_10⟩ := u
            rw [m_refused_eq] at hw_10
            have hw_10 := hw_10.symm
            simp only [Prod.mk.injEq] at hw_10
            obtain ⟨rfl, rfl, rfl, rfl, rfl, rfl, rfl, rfl, rfl, rfl, rfl, rfl, rfl, rfl, rfl, rfl, rfl, rfl, rfl, rfl⟩ := hw_10
            obtain ⟨hP1, hK1, hD1⟩ := hB
            rw [ht] at hP1
            obtain ⟨hP, hD⟩ := va_join (wr := []) (w1 := (wM cI cJ cZ b kd vl lo hi nd so fr tg gn nr kp ah kx st mo ma (m_reason kd p0 p1 p2) op nx)) hP hD [0, 1, 2, 3, 4, 5, 6, 7, 8, 9, 10, 11, 12, 13] [] rfl rfl (by decide) (by decide) hk1 hFc hP1 hD1
            generalize H1 = H at hP hS ⊢
            have hP : va_P (dC, dI) vwCl (wM cI cJ cZ b kd vl lo hi nd so fr tg gn nr kp ah kx st mo ma (m_reason kd p0 p1 p2) op nx) H := hP
            have hD : va_D A (wM cI cJ cZ b kd vl lo hi nd so fr tg gn nr kp ah kx st mo ma (m_reason kd p0 p1 p2) op nx) := hD
            exact W.iret (v := (-1 : Int32)) hx hb hr (fun t ht hW => ⟨⟨(-1 : Int32), (kd, vl, lo, hi, nd, so, fr, tg, gn, nr, kp, ah, kx, st, mo, ma, (m_reason kd p0 p1 p2), op, nx), rfl, (by unfold m_rod; rw [if_neg c_1, if_pos c_3, if_neg c_4, if_neg c_6, if_neg c_7]), by rw [ht]; exact hP, va_K.moved hW.alike hK, hD⟩, hS.F ht⟩) hS.2.2 dX3_rod_57
        · skip
          refine lv_aload_n hx hb dX3_rod_31 rfl (lv_at hl 0 rfl) ?_
          refine lv_iconst (v := 1) hx hb dX3_rod_32 (by decide) ?_
          have hFc := va_free (wc := (wM cI cJ cZ b kd vl lo hi nd so fr tg gn nr kp ah kx st mo ma fa op nx)) hD hS hA [0, 1, 2, 3, 4, 5, 6, 7, 8, 9, 10, 11, 12, 13] rfl
          refine va_calli (va_runV (As := [.int (1 : Int32)]) (rest := []) ⟨hx, hb, hml, hown, hts⟩ (c_X3_refused l dC dI cI cJ cZ b kd vl lo hi nd so fr tg gn nr kp ah kx st mo ma fa op nx (1 : Int32)  s.heap.size) (cwV 1 hts gX3_rod_X3_refused rfl rfl rfl (by decide +kernel) ⟨Nat.le_of_ble_eq_true rfl, Nat.le_of_ble_eq_true rfl⟩) (fb_m hK hP hD (va_recv hK hP (ci := 2) (q0 := 0) rfl rfl)) rfl rfl hl.1 rfl (lv_room (Nat.le_of_ble_eq_true rfl)) dX3_rod_33 ⟨Nat.zero_le _, Nat.zero_le _⟩) hS (fun q _ h => hFc q h) hFc (fun r_11 u t H1 locs ht hvm hw_11 hB hz1 hk1 hS => ?_)
          obtain ⟨kd_11, vl_11, lo_11, hi_11, nd_11, so_11, fr_11, tg_11, gn_11, nr_11, kp_11, ah_11, kx_11, st_11, mo_11, ma_11, fa_11, op_11, nx_11⟩ := u
          rw [m_refused_eq] at hw_11
          have hw_11 := hw_11.symm
          simp only [Prod.mk.injEq] at hw_11
          obtain ⟨rfl, rfl, rfl, rfl, rfl, rfl, rfl, rfl, rfl, rfl, rfl, rfl, rfl, rfl, rfl, rfl, rfl, rfl, rfl, rfl⟩ := hw_11
          obtain ⟨hP1, hK1, hD1⟩ := hB
          rw [ht] at hP1
          obtain ⟨hP, hD⟩ := va_join (wr := []) (w1 := (wM cI cJ cZ b kd vl lo hi nd so fr tg gn nr kp ah kx st mo ma (1 : Int32) op nx)) hP hD [0, 1, 2, 3, 4, 5, 6, 7, 8, 9, 10, 11, 12, 13] [] rfl rfl (by decide) (by decide) hk1 hFc hP1 hD1
          generalize H1 = H at hP hS ⊢
          have hP : va_P (dC, dI) vwCl (wM cI cJ cZ b kd vl lo hi nd so fr tg gn nr kp ah kx st mo ma (1 : Int32) op nx) H := hP
          have hD : va_D A (wM cI cJ cZ b kd vl lo hi nd so fr tg gn nr kp ah kx st mo ma (1 : Int32) op nx) := hD
          exact W.iret (v := (-1 : Int32)) hx hb hr (fun t ht hW => ⟨⟨(-1 : Int32), (kd, vl, lo, hi, nd, so, fr, tg, gn, nr, kp, ah, kx, st, mo, ma, (1 : Int32), op, nx), rfl, (by unfold m_rod; rw [if_neg c_1, if_pos c_3, if_neg c_4, if_pos c_6]), by rw [ht]; exact hP, va_K.moved hW.alike hK, hD⟩, hS.F ht⟩) hS.2.2 dX3_rod_36
    · skip
      refine lv_aload_n hx hb dX3_rod_9 rfl (lv_at hl 0 rfl) ?_
      refine lv_iconst (v := 2) hx hb dX3_rod_10 (by decide) ?_
      have hFc := va_free (wc := (wM cI cJ cZ b kd vl lo hi nd so fr tg gn nr kp ah kx st mo ma fa op nx)) hD hS hA [0, 1, 2, 3, 4, 5, 6, 7, 8, 9, 10, 11, 12, 13] rfl
      refine va_calli (va_runV (As := [.int (2 : Int32)]) (rest := []) ⟨hx, hb, hml, hown, hts⟩ (c_X3_refused l dC dI cI cJ cZ b kd vl lo hi nd so fr tg gn nr kp ah kx st mo ma fa op nx (2 : Int32)  s.heap.size) (cwV 1 hts gX3_rod_X3_refused rfl rfl rfl (by decide +kernel) ⟨Nat.le_of_ble_eq_true rfl, Nat.le_of_ble_eq_true rfl⟩) (fb_m hK hP hD (va_recv hK hP (ci := 2) (q0 := 0) rfl rfl)) rfl rfl hl.1 rfl (lv_room (Nat.le_of_ble_eq_true rfl)) dX3_rod_11 ⟨Nat.zero_le _, Nat.zero_le _⟩) hS (fun q _ h => hFc q h) hFc (fun r_12 u t H1 locs ht hvm hw_12 hB hz1 hk1 hS => ?_)
      obtain ⟨kd_12, vl_12, lo_12, hi_12, nd_12, so_12, fr_12, tg_12, gn_12, nr_12, kp_12, ah_12, kx_12, st_12, mo_12, ma_12, fa_12, op_12, nx_12⟩ := u
      rw [m_refused_eq] at hw_12
      have hw_12 := hw_12.symm
      simp only [Prod.mk.injEq] at hw_12
      obtain ⟨rfl, rfl, rfl, rfl, rfl, rfl, rfl, rfl, rfl, rfl, rfl, rfl, rfl, rfl, rfl, rfl, rfl, rfl, rfl, rfl⟩ := hw_12
      obtain ⟨hP1, hK1, hD1⟩ := hB
      rw [ht] at hP1
      obtain ⟨hP, hD⟩ := va_join (wr := []) (w1 := (wM cI cJ cZ b kd vl lo hi nd so fr tg gn nr kp ah kx st mo ma (2 : Int32) op nx)) hP hD [0, 1, 2, 3, 4, 5, 6, 7, 8, 9, 10, 11, 12, 13] [] rfl rfl (by decide) (by decide) hk1 hFc hP1 hD1
      generalize H1 = H at hP hS ⊢
      have hP : va_P (dC, dI) vwCl (wM cI cJ cZ b kd vl lo hi nd so fr tg gn nr kp ah kx st mo ma (2 : Int32) op nx) H := hP
      have hD : va_D A (wM cI cJ cZ b kd vl lo hi nd so fr tg gn nr kp ah kx st mo ma (2 : Int32) op nx) := hD
      exact W.iret (v := (-1 : Int32)) hx hb hr (fun t ht hW => ⟨⟨(-1 : Int32), (kd, vl, lo, hi, nd, so, fr, tg, gn, nr, kp, ah, kx, st, mo, ma, (2 : Int32), op, nx), rfl, (by unfold m_rod; rw [if_neg c_1, if_neg c_3]), by rw [ht]; exact hP, va_K.moved hW.alike hK, hD⟩, hS.F ht⟩) hS.2.2 dX3_rod_14
def m_order (kd : Nat → Int32) (vl : Nat → Int64) (lo : Nat → Int64) (hi : Nat → Int64) (nd : Int32) (so : Nat → Int32) (fr : Nat → Int32) (tg : Nat → Int32) (gn : Nat → Int32) (nr : Int32) (kp : Nat → Int64) (ah : Nat → Int64) (kx : Nat → Int32) (st : Int32) (mo : Int32) (ma : Int32) (fa : Int32) (op : Nat → Int32) (nx : Nat → Int32) (p0 : Int32) (p1 : Int32) : Int32 × MS :=
  if (m_isDial nd p0) = 0 then ((-2 : Int32), kd, vl, lo, hi, nd, so, fr, tg, gn, nr, kp, ah, kx, st, mo, ma, (1 : Int32), op, nx)
  else if (m_isDial nd p1) = 0 then ((-2 : Int32), kd, vl, lo, hi, nd, so, fr, tg, gn, nr, kp, ah, kx, st, mo, ma, (1 : Int32), op, nx)
    else if (kd p0.toNatClampNeg) = (kd p1.toNatClampNeg) then (if (m_isAbove (kd p0.toNatClampNeg) (vl p0.toNatClampNeg) (vl p1.toNatClampNeg)) = 0 then (if (m_isAbove (kd p0.toNatClampNeg) (vl p1.toNatClampNeg) (vl p0.toNatClampNeg)) = 0 then ((0 : Int32), kd, vl, lo, hi, nd, so, fr, tg, gn, nr, kp, ah, kx, st, mo, ma, (0 : Int32), op, nx)
          else ((-1 : Int32), kd, vl, lo, hi, nd, so, fr, tg, gn, nr, kp, ah, kx, st, mo, ma, (0 : Int32), op, nx))
        else ((1 : Int32), kd, vl, lo, hi, nd, so, fr, tg, gn, nr, kp, ah, kx, st, mo, ma, (0 : Int32), op, nx))
      else ((-2 : Int32), kd, vl, lo, hi, nd, so, fr, tg, gn, nr, kp, ah, kx, st, mo, ma, (6 : Int32), op, nx)
set_option maxHeartbeats 4000000 in
set_option maxRecDepth 100000 in
theorem c_X3_order (l : Launch) (dC : Nat → ClassId) (dI : Nat → Nat → Nat) (cI cJ cZ : ClassId) (b : Nat → Nat) (kd : Nat → Int32) (vl : Nat → Int64) (lo : Nat → Int64) (hi : Nat → Int64) (nd : Int32) (so : Nat → Int32) (fr : Nat → Int32) (tg : Nat → Int32) (gn : Nat → Int32) (nr : Int32) (kp : Nat → Int64) (ah : Nat → Int64) (kx : Nat → Int32) (st : Int32) (mo : Int32) (ma : Int32) (fa : Int32) (op : Nat → Int32) (nx : Nat → Int32) (p0 : Int32) (p1 : Int32) (hn : 0 ≤ nd ∧ nd ≤ 16) (sz : Nat) : Met l yX3_order wsX3_order ({ frames := 3, cells := 0, slots := 0, locals := 69 }) (va_Pc [.ref (b 0), .int p0, .int p1] (fun U => U.heap.size = sz ∧ va_P (dC, dI) vwCl (wM cI cJ cZ b kd vl lo hi nd so fr tg gn nr kp ah kx st mo ma fa op nx) U.heap ∧ va_K (dC, dI) vwCl (tA cI cJ cZ) U ∧ va_D (fun _ => True) (wM cI cJ cZ b kd vl lo hi nd so fr tg gn nr kp ah kx st mo ma fa op nx))) (va_Qi (fun (r : Int32) (u : MS) => (r, u) = m_order kd vl lo hi nd so fr tg gn nr kp ah kx st mo ma fa op nx p0 p1) (at_M dC dI cI cJ cZ (va_A (wM cI cJ cZ b kd vl lo hi nd so fr tg gn nr kp ah kx st mo ma fa op nx) sz) b) (va_A (wM cI cJ cZ b kd vl lo hi nd so fr tg gn nr kp ah kx st mo ma fa op nx) sz)) 0 0 (va_A (wM cI cJ cZ b kd vl lo hi nd so fr tg gn nr kp ah kx st mo ma fa op nx) sz) := by
  refine Met.ofW (cc := cX3_order) (maxL := 3) (ret := (some .int)) (by decide) rfl ?_
  intro p e s m args below meth c s₁ B hml hv
  obtain ⟨rfl, hsz, hP, hK, hD0⟩ := hv
  subst hsz
  have hD := hD0.self (sz := s.heap.size)
  generalize hAe : va_A (wM cI cJ cZ b kd vl lo hi nd so fr tg gn nr kp ah kx st mo ma fa op nx) s.heap.size = A at hD ⊢
  have hA : ∀ q : Nat, s.heap.size ≤ q → A q := fun q h => by rw [← hAe]; exact Or.inr h
  have hS : va_S A s.heap s.heap [] := va_S.rf
  have hP : va_P (dC, dI) vwCl (wM cI cJ cZ b kd vl lo hi nd so fr tg gn nr kp ah kx st mo ma fa op nx) s.heap := hP
  have hx := B.exec
  have hb := B.bytes
  have hr := B.returns
  have hts := atoms_spec (ws := wsX3_order) B.pre
  have hown : s.vm.findClass RX3 = some m.cls := findClass_of_methodNamed B.named
  have hlocks := B.notSynchronized
  have h_inX3 : ∀ w ∈ wsX30, w ∈ wsX3_order := fun _ h => List.mem_cons_of_mem _ (List.mem_append_right _ h)
  have k_0 := hts (.fieldLink RX3 55 "DetentCabinetModel" "fault" "I") (by decide +kernel)
  have k_1 := hts (.fieldLink RX3 7 "DetentCabinetModel" "kind" "[I") (by decide +kernel)
  have k_2 := hts (.fieldLink RX3 13 "DetentCabinetModel" "value" "[J") (by decide +kernel)
  have hl := lv_entry ([.ref (b 0), .int p0, .int p1]) (n := 3) (Nat.le_of_ble_eq_true rfl)
  rw [lg_entry_eq]
  generalize (lg_sl ([.ref (b 0), .int p0, .int p1]) ++ List.replicate (3 - (lg_sl ([.ref (b 0), .int p0, .int p1])).length) Slot.unset).toArray = ls at hl ⊢
  have hl : lv_has ls 3 [(0, .ref (b 0)), (1, .int p0), (2, .int p1)] := hl
  refine lv_aload_n hx hb dX3_order_0 rfl (lv_at hl 0 rfl) ?_
  refine lv_aload_n hx hb dX3_order_1 rfl (lv_at hl 0 rfl) ?_
  refine lv_iload_n hx hb dX3_order_2 rfl (lv_at hl 1 rfl) ?_
  refine cs_i (W.runV (As := [.int p0]) (rest := [.ref (b 0)]) ⟨hx, hb, hml, hown, hts⟩ (c_X3_isDial l dC dI cI cJ cZ b kd vl lo hi nd so fr tg gn nr kp ah kx st mo ma fa op nx p0 ) (cwV 1 hts gX3_order_X3_isDial rfl rfl rfl (by decide +kernel) ⟨Nat.le_of_ble_eq_true rfl, Nat.le_of_ble_eq_true rfl⟩) (fb_v hK hP (va_recv hK hP (ci := 2) (q0 := 0) rfl rfl)) rfl rfl hl.1 rfl (lv_room (Nat.le_of_ble_eq_true rfl)) dX3_order_3 ⟨Nat.zero_le _, Nat.zero_le _⟩) ?_
  refine lv_if_eq (tgt := 17) hx hb dX3_order_6 (by decide) (fun c_1 => ?_) (fun c_1 => ?_)
  · skip
    refine lv_iconst (v := 1) hx hb dX3_order_17 (by decide) ?_
    refine lv_goto (tgt := 42) hx hb dX3_order_18 (by decide) ?_
    refine va_put (D := (dC, dI)) (ci := 2) (v := .int (1 : Int32)) (ty := .int) (C := RX3) (T := TX3) (N := 19) hx hb hts h_inX3 tyX3 tyX3_ok nmX3 hown hK hP hD hS 0 rfl rfl 16 (by decide) k_0 (fun _ h9 => h9) rfl (by decide +kernel) rfl rfl (Nat.le_of_ble_eq_true rfl) dX3_order_42 (fun H locs hP hD hS => ?_)
    have hP : va_P (dC, dI) vwCl (wM cI cJ cZ b kd vl lo hi nd so fr tg gn nr kp ah kx st mo ma (1 : Int32) op nx) H := hP
    have hD : va_D A (wM cI cJ cZ b kd vl lo hi nd so fr tg gn nr kp ah kx st mo ma (1 : Int32) op nx) := hD
    refine lv_aload_n hx hb dX3_order_45 rfl (lv_at hl 0 rfl) ?_
    refine va_get (D := (dC, dI)) (ci := 2) (v := .int (1 : Int32)) (C := RX3) (T := TX3) (N := 19) hx hb hts h_inX3 hown hK hP 0 rfl rfl 16 (by decide) k_0 (fun _ h9 => h9) rfl dX3_order_46 ?_
    refine lv_if_le (tgt := 55) hx hb dX3_order_49 (by decide) (fun c_2 => ?_) (fun c_2 => ?_)
    · skip
      exact absurd c_2 (by decide)
    · skip
      refine lv_bipush (v := (-2)) hx hb dX3_order_52 (by decide) ?_
      exact W.iret (v := (-2 : Int32)) hx hb hr (fun t ht hW => ⟨⟨(-2 : Int32), (kd, vl, lo, hi, nd, so, fr, tg, gn, nr, kp, ah, kx, st, mo, ma, (1 : Int32), op, nx), rfl, (by unfold m_order; rw [if_pos c_1]), by rw [ht]; exact hP, va_K.moved hW.alike hK, hD⟩, hS.F ht⟩) hS.2.2 dX3_order_54
  · skip
    refine lv_aload_n hx hb dX3_order_9 rfl (lv_at hl 0 rfl) ?_
    refine lv_iload_n hx hb dX3_order_10 rfl (lv_at hl 2 rfl) ?_
    refine cs_i (W.runV (As := [.int p1]) (rest := [.ref (b 0)]) ⟨hx, hb, hml, hown, hts⟩ (c_X3_isDial l dC dI cI cJ cZ b kd vl lo hi nd so fr tg gn nr kp ah kx st mo ma fa op nx p1 ) (cwV 1 hts gX3_order_X3_isDial rfl rfl rfl (by decide +kernel) ⟨Nat.le_of_ble_eq_true rfl, Nat.le_of_ble_eq_true rfl⟩) (fb_v hK hP (va_recv hK hP (ci := 2) (q0 := 0) rfl rfl)) rfl rfl hl.1 rfl (lv_room (Nat.le_of_ble_eq_true rfl)) dX3_order_11 ⟨Nat.zero_le _, Nat.zero_le _⟩) ?_
    refine lv_if_ne (tgt := 21) hx hb dX3_order_14 (by decide) (fun c_3 => ?_) (fun c_3 => ?_)
    · skip
      refine lv_aload_n hx hb dX3_order_21 rfl (lv_at hl 0 rfl) ?_
      refine va_get (D := (dC, dI)) (ci := 2) (v := .ref (b 1)) (C := RX3) (T := TX3) (N := 19) hx hb hts h_inX3 hown hK hP 0 rfl rfl 0 (by decide) k_1 (fun _ h9 => h9) rfl dX3_order_22 ?_
      refine lv_iload_n hx hb dX3_order_25 rfl (lv_at hl 1 rfl) ?_
      refine va_iald hx hb hK hP 1 0 rfl rfl (in_dm hn.2 (by assumption)) dX3_order_26 ?_
      refine lv_aload_n hx hb dX3_order_27 rfl (lv_at hl 0 rfl) ?_
      refine va_get (D := (dC, dI)) (ci := 2) (v := .ref (b 1)) (C := RX3) (T := TX3) (N := 19) hx hb hts h_inX3 hown hK hP 0 rfl rfl 0 (by decide) k_1 (fun _ h9 => h9) rfl dX3_order_28 ?_
      refine lv_iload_n hx hb dX3_order_31 rfl (lv_at hl 2 rfl) ?_
      refine va_iald hx hb hK hP 1 0 rfl rfl (in_dm hn.2 (by assumption)) dX3_order_32 ?_
      refine lv_icmp_eq (tgt := 41) hx hb dX3_order_33 (by decide) (fun c_4 => ?_) (fun c_4 => ?_)
      · skip
        refine lv_iconst (v := 0) hx hb dX3_order_41 (by decide) ?_
        refine va_put (D := (dC, dI)) (ci := 2) (v := .int (0 : Int32)) (ty := .int) (C := RX3) (T := TX3) (N := 19) hx hb hts h_inX3 tyX3 tyX3_ok nmX3 hown hK hP hD hS 0 rfl rfl 16 (by decide) k_0 (fun _ h9 => h9) rfl (by decide +kernel) rfl rfl (Nat.le_of_ble_eq_true rfl) dX3_order_42 (fun H locs hP hD hS => ?_)
        have hP : va_P (dC, dI) vwCl (wM cI cJ cZ b kd vl lo hi nd so fr tg gn nr kp ah kx st mo ma (0 : Int32) op nx) H := hP
        have hD : va_D A (wM cI cJ cZ b kd vl lo hi nd so fr tg gn nr kp ah kx st mo ma (0 : Int32) op nx) := hD
        refine lv_aload_n hx hb dX3_order_45 rfl (lv_at hl 0 rfl) ?_
        refine va_get (D := (dC, dI)) (ci := 2) (v := .int (0 : Int32)) (C := RX3) (T := TX3) (N := 19) hx hb hts h_inX3 hown hK hP 0 rfl rfl 16 (by decide) k_0 (fun _ h9 => h9) rfl dX3_order_46 ?_
        refine lv_if_le (tgt := 55) hx hb dX3_order_49 (by decide) (fun c_5 => ?_) (fun c_5 => ?_)
        · skip
          refine lv_aload_n hx hb dX3_order_55 rfl (lv_at hl 0 rfl) ?_
          refine lv_aload_n hx hb dX3_order_56 rfl (lv_at hl 0 rfl) ?_
          refine va_get (D := (dC, dI)) (ci := 2) (v := .ref (b 1)) (C := RX3) (T := TX3) (N := 19) hx hb hts h_inX3 hown hK hP 0 rfl rfl 0 (by decide) k_1 (fun _ h9 => h9) rfl dX3_order_57 ?_
          refine lv_iload_n hx hb dX3_order_60 rfl (lv_at hl 1 rfl) ?_
          refine va_iald hx hb hK hP 1 0 rfl rfl (in_dm hn.2 (by assumption)) dX3_order_61 ?_
          refine lv_aload_n hx hb dX3_order_62 rfl (lv_at hl 0 rfl) ?_
          refine va_get (D := (dC, dI)) (ci := 2) (v := .ref (b 2)) (C := RX3) (T := TX3) (N := 19) hx hb hts h_inX3 hown hK hP 0 rfl rfl 1 (by decide) k_2 (fun _ h9 => h9) rfl dX3_order_63 ?_
          refine lv_iload_n hx hb dX3_order_66 rfl (lv_at hl 1 rfl) ?_
          refine va_lald hx hb hK hP 2 1 rfl rfl (in_dm hn.2 (by assumption)) dX3_order_67 ?_
          refine lv_aload_n hx hb dX3_order_68 rfl (lv_at hl 0 rfl) ?_
          refine va_get (D := (dC, dI)) (ci := 2) (v := .ref (b 2)) (C := RX3) (T := TX3) (N := 19) hx hb hts h_inX3 hown hK hP 0 rfl rfl 1 (by decide) k_2 (fun _ h9 => h9) rfl dX3_order_69 ?_
          refine lv_iload_n hx hb dX3_order_72 rfl (lv_at hl 2 rfl) ?_
          refine va_lald hx hb hK hP 2 1 rfl rfl (in_dm hn.2 (by assumption)) dX3_order_73 ?_
          refine cs_i (W.runV (As := [.int (kd p0.toNatClampNeg), .long (vl p0.toNatClampNeg), .long (vl p1.toNatClampNeg)]) (rest := []) ⟨hx, hb, hml, hown, hts⟩ (c_X3_isAbove l dC dI cI cJ cZ b kd vl lo hi nd so fr tg gn nr kp ah kx st mo ma (0 : Int32) op nx (kd p0.toNatClampNeg) (vl p0.toNatClampNeg) (vl p1.toNatClampNeg) ) (cwV 3 hts gX3_order_X3_isAbove rfl rfl rfl (by decide +kernel) ⟨Nat.le_of_ble_eq_true rfl, Nat.le_of_ble_eq_true rfl⟩) (fb_v hK hP (va_recv hK hP (ci := 2) (q0 := 0) rfl rfl)) rfl rfl hl.1 rfl (lv_room (Nat.le_of_ble_eq_true rfl)) dX3_order_74 ⟨Nat.zero_le _, Nat.zero_le _⟩) ?_
          refine lv_if_eq (tgt := 82) hx hb dX3_order_77 (by decide) (fun c_6 => ?_) (fun c_6 => ?_)
          · skip
            refine lv_aload_n hx hb dX3_order_82 rfl (lv_at hl 0 rfl) ?_
            refine lv_aload_n hx hb dX3_order_83 rfl (lv_at hl 0 rfl) ?_
            refine va_get (D := (dC, dI)) (ci := 2) (v := .ref (b 1)) (C := RX3) (T := TX3) (N := 19) hx hb hts h_inX3 hown hK hP 0 rfl rfl 0 (by decide) k_1 (fun _ h9 => h9) rfl dX3_order_84 ?_
            refine lv_iload_n hx hb dX3_order_87 rfl (lv_at hl 1 rfl) ?_
            refine va_iald hx hb hK hP 1 0 rfl rfl (in_dm hn.2 (by assumption)) dX3_order_88 ?_
            refine lv_aload_n hx hb dX3_order_89 rfl (lv_at hl 0 rfl) ?_
            refine va_get (D := (dC, dI)) (ci := 2) (v := .ref (b 2)) (C := RX3) (T := TX3) (N := 19) hx hb hts h_inX3 hown hK hP 0 rfl rfl 1 (by decide) k_2 (fun _ h9 => h9) rfl dX3_order_90 ?_
            refine lv_iload_n hx hb dX3_order_93 rfl (lv_at hl 2 rfl) ?_
            refine va_lald hx hb hK hP 2 1 rfl rfl (in_dm hn.2 (by assumption)) dX3_order_94 ?_
            refine lv_aload_n hx hb dX3_order_95 rfl (lv_at hl 0 rfl) ?_
            refine va_get (D := (dC, dI)) (ci := 2) (v := .ref (b 2)) (C := RX3) (T := TX3) (N := 19) hx hb hts h_inX3 hown hK hP 0 rfl rfl 1 (by decide) k_2 (fun _ h9 => h9) rfl dX3_order_96 ?_
            refine lv_iload_n hx hb dX3_order_99 rfl (lv_at hl 1 rfl) ?_
            refine va_lald hx hb hK hP 2 1 rfl rfl (in_dm hn.2 (by assumption)) dX3_order_100 ?_
            refine cs_i (W.runV (As := [.int (kd p0.toNatClampNeg), .long (vl p1.toNatClampNeg), .long (vl p0.toNatClampNeg)]) (rest := []) ⟨hx, hb, hml, hown, hts⟩ (c_X3_isAbove l dC dI cI cJ cZ b kd vl lo hi nd so fr tg gn nr kp ah kx st mo ma (0 : Int32) op nx (kd p0.toNatClampNeg) (vl p1.toNatClampNeg) (vl p0.toNatClampNeg) ) (cwV 3 hts gX3_order_X3_isAbove rfl rfl rfl (by decide +kernel) ⟨Nat.le_of_ble_eq_true rfl, Nat.le_of_ble_eq_true rfl⟩) (fb_v hK hP (va_recv hK hP (ci := 2) (q0 := 0) rfl rfl)) rfl rfl hl.1 rfl (lv_room (Nat.le_of_ble_eq_true rfl)) dX3_order_101 ⟨Nat.zero_le _, Nat.zero_le _⟩) ?_
            refine lv_if_eq (tgt := 111) hx hb dX3_order_104 (by decide) (fun c_7 => ?_) (fun c_7 => ?_)
            · skip
              refine lv_iconst (v := 0) hx hb dX3_order_111 (by decide) ?_
              exact W.iret (v := (0 : Int32)) hx hb hr (fun t ht hW => ⟨⟨(0 : Int32), (kd, vl, lo, hi, nd, so, fr, tg, gn, nr, kp, ah, kx, st, mo, ma, (0 : Int32), op, nx), rfl, (by unfold m_order; rw [if_neg c_1, if_neg c_3, if_pos c_4, if_pos c_6, if_pos c_7]), by rw [ht]; exact hP, va_K.moved hW.alike hK, hD⟩, hS.F ht⟩) hS.2.2 dX3_order_112
            · skip
              refine lv_iconst (v := (-1)) hx hb dX3_order_107 (by decide) ?_
              refine lv_goto (tgt := 112) hx hb dX3_order_108 (by decide) ?_
              exact W.iret (v := (-1 : Int32)) hx hb hr (fun t ht hW => ⟨⟨(-1 : Int32), (kd, vl, lo, hi, nd, so, fr, tg, gn, nr, kp, ah, kx, st, mo, ma, (0 : Int32), op, nx), rfl, (by unfold m_order; rw [if_neg c_1, if_neg c_3, if_pos c_4, if_pos c_6, if_neg c_7]), by rw [ht]; exact hP, va_K.moved hW.alike hK, hD⟩, hS.F ht⟩) hS.2.2 dX3_order_112
          · skip
            refine lv_iconst (v := 1) hx hb dX3_order_80 (by decide) ?_
            exact W.iret (v := (1 : Int32)) hx hb hr (fun t ht hW => ⟨⟨(1 : Int32), (kd, vl, lo, hi, nd, so, fr, tg, gn, nr, kp, ah, kx, st, mo, ma, (0 : Int32), op, nx), rfl, (by unfold m_order; rw [if_neg c_1, if_neg c_3, if_pos c_4, if_neg c_6]), by rw [ht]; exact hP, va_K.moved hW.alike hK, hD⟩, hS.F ht⟩) hS.2.2 dX3_order_81
        · skip
          exact absurd (by decide) c_5
      · skip
        refine lv_bipush (v := 6) hx hb dX3_order_36 (by decide) ?_
        refine lv_goto (tgt := 42) hx hb dX3_order_38 (by decide) ?_
        refine va_put (D := (dC, dI)) (ci := 2) (v := .int (6 : Int32)) (ty := .int) (C := RX3) (T := TX3) (N := 19) hx hb hts h_inX3 tyX3 tyX3_ok nmX3 hown hK hP hD hS 0 rfl rfl 16 (by decide) k_0 (fun _ h9 => h9) rfl (by decide +kernel) rfl rfl (Nat.le_of_ble_eq_true rfl) dX3_order_42 (fun H locs hP hD hS => ?_)
        have hP : va_P (dC, dI) vwCl (wM cI cJ cZ b kd vl lo hi nd so fr tg gn nr kp ah kx st mo ma (6 : Int32) op nx) H := hP
        have hD : va_D A (wM cI cJ cZ b kd vl lo hi nd so fr tg gn nr kp ah kx st mo ma (6 : Int32) op nx) := hD
        refine lv_aload_n hx hb dX3_order_45 rfl (lv_at hl 0 rfl) ?_
        refine va_get (D := (dC, dI)) (ci := 2) (v := .int (6 : Int32)) (C := RX3) (T := TX3) (N := 19) hx hb hts h_inX3 hown hK hP 0 rfl rfl 16 (by decide) k_0 (fun _ h9 => h9) rfl dX3_order_46 ?_
        refine lv_if_le (tgt := 55) hx hb dX3_order_49 (by decide) (fun c_8 => ?_) (fun c_8 => ?_)
        · skip
          exact absurd c_8 (by decide)
        · skip
          refine lv_bipush (v := (-2)) hx hb dX3_order_52 (by decide) ?_
          exact W.iret (v := (-2 : Int32)) hx hb hr (fun t ht hW => ⟨⟨(-2 : Int32), (kd, vl, lo, hi, nd, so, fr, tg, gn, nr, kp, ah, kx, st, mo, ma, (6 : Int32), op, nx), rfl, (by unfold m_order; rw [if_neg c_1, if_neg c_3, if_neg c_4]), by rw [ht]; exact hP, va_K.moved hW.alike hK, hD⟩, hS.F ht⟩) hS.2.2 dX3_order_54
    · skip
      refine lv_iconst (v := 1) hx hb dX3_order_17 (by decide) ?_
      refine lv_goto (tgt := 42) hx hb dX3_order_18 (by decide) ?_
      refine va_put (D := (dC, dI)) (ci := 2) (v := .int (1 : Int32)) (ty := .int) (C := RX3) (T := TX3) (N := 19) hx hb hts h_inX3 tyX3 tyX3_ok nmX3 hown hK hP hD hS 0 rfl rfl 16 (by decide) k_0 (fun _ h9 => h9) rfl (by decide +kernel) rfl rfl (Nat.le_of_ble_eq_true rfl) dX3_order_42 (fun H locs hP hD hS => ?_)
      have hP : va_P (dC, dI) vwCl (wM cI cJ cZ b kd vl lo hi nd so fr tg gn nr kp ah kx st mo ma (1 : Int32) op nx) H := hP
      have hD : va_D A (wM cI cJ cZ b kd vl lo hi nd so fr tg gn nr kp ah kx st mo ma (1 : Int32) op nx) := hD
      refine lv_aload_n hx hb dX3_order_45 rfl (lv_at hl 0 rfl) ?_
      refine va_get (D := (dC, dI)) (ci := 2) (v := .int (1 : Int32)) (C := RX3) (T := TX3) (N := 19) hx hb hts h_inX3 hown hK hP 0 rfl rfl 16 (by decide) k_0 (fun _ h9 => h9) rfl dX3_order_46 ?_
      refine lv_if_le (tgt := 55) hx hb dX3_order_49 (by decide) (fun c_9 => ?_) (fun c_9 => ?_)
      · skip
        exact absurd c_9 (by decide)
      · skip
        refine lv_bipush (v := (-2)) hx hb dX3_order_52 (by decide) ?_
        exact W.iret (v := (-2 : Int32)) hx hb hr (fun t ht hW => ⟨⟨(-2 : Int32), (kd, vl, lo, hi, nd, so, fr, tg, gn, nr, kp, ah, kx, st, mo, ma, (1 : Int32), op, nx), rfl, (by unfold m_order; rw [if_neg c_1, if_pos c_3]), by rw [ht]; exact hP, va_K.moved hW.alike hK, hD⟩, hS.F ht⟩) hS.2.2 dX3_order_54
