abbrev mg_tup (kd : Nat → Int32) (lo : Nat → Int64) (hi : Nat → Int64) (nd : Int32) (so : Nat → Int32) (fr : Nat → Int32) (tg : Nat → Int32) (nr : Int32) (kp : Nat → Int64) (ah : Nat → Int64) (kx : Nat → Int32) (st : Int32) (ma : Int32) (fa : Int32) (G : VT) (op9 nx9 : Nat → Int32) : MS := (kd, G.1, lo, hi, nd, so, fr, tg, G.2.1, nr, kp, ah, kx, st, G.2.2, ma, fa, op9, nx9)
set_option maxHeartbeats 4000000 in
set_option maxRecDepth 100000 in
theorem c_X3_gets (l : Launch) (dC : Nat → ClassId) (dI : Nat → Nat → Nat) (cI cJ cZ : ClassId) (b : Nat → Nat) (kd : Nat → Int32) (vl : Nat → Int64) (lo : Nat → Int64) (hi : Nat → Int64) (nd : Int32) (so : Nat → Int32) (fr : Nat → Int32) (tg : Nat → Int32) (gn : Nat → Int32) (nr : Int32) (kp : Nat → Int64) (ah : Nat → Int64) (kx : Nat → Int32) (st : Int32) (mo : Int32) (ma : Int32) (fa : Int32) (op : Nat → Int32) (nx : Nat → Int32) (p0 : Int32) (p1 : Int64) (hnr : 0 ≤ nr ∧ nr ≤ 24) (htg : ∀ j, vp_in (tg j) 16) (hd : vp_in p0 16) (sz : Nat) : Met l yX3_gets wsX3_gets ({ frames := 6, cells := 0, slots := 0, locals := 143 }) (va_Pc [.ref (b 0), .int p0, .long p1] (fun U => U.heap.size = sz ∧ va_P (dC, dI) vwCl (wM cI cJ cZ b kd vl lo hi nd so fr tg gn nr kp ah kx st mo ma fa op nx) U.heap ∧ va_K (dC, dI) vwCl (tA cI cJ cZ) U ∧ va_D (fun _ => True) (wM cI cJ cZ b kd vl lo hi nd so fr tg gn nr kp ah kx st mo ma fa op nx))) (va_Qv (fun (u : MS) => ∃ op9 nx9 : Nat → Int32, u = mg_tup kd lo hi nd so fr tg nr kp ah kx st ma fa (t_gets kd lo hi so fr tg nr.toNatClampNeg 25 (vl, gn, mo) p0 p1) op9 nx9) (at_M dC dI cI cJ cZ (va_A (wM cI cJ cZ b kd vl lo hi nd so fr tg gn nr kp ah kx st mo ma fa op nx) sz) b) (va_A (wM cI cJ cZ b kd vl lo hi nd so fr tg gn nr kp ah kx st mo ma fa op nx) sz)) 0 0 (va_A (wM cI cJ cZ b kd vl lo hi nd so fr tg gn nr kp ah kx st mo ma fa op nx) sz) := by
  refine Met.ofW (cc := cX3_gets) (maxL := 7) (ret := none) (by decide) rfl ?_
  intro p e s m args below meth c s₁ B hml hv
  obtain ⟨rfl, hsz, hP, hK, hD0⟩ := hv
  subst hsz
  have hD := hD0.self (sz := s.heap.size)
  generalize hAe : va_A (wM cI cJ cZ b kd vl lo hi nd so fr tg gn nr kp ah kx st mo ma fa op nx) s.heap.size = A at hD ⊢
  have hA : ∀ q : Nat, s.heap.size ≤ q → A q := fun q h => by rw [← hAe]; exact Or.inr h
  have hS : va_S A s.heap s.heap [] := va_S.rf
  have hP : va_P (dC, dI) vwCl (wM cI cJ cZ b kd vl lo hi nd so fr tg gn nr kp ah kx st mo ma fa op nx) s.heap := hP
  have hx := B.exec
  have hb := B.bytes
  have hr := B.returns
  have hts := atoms_spec (ws := wsX3_gets) B.pre
  have hown : s.vm.findClass RX3 = some m.cls := findClass_of_methodNamed B.named
  have hlocks := B.notSynchronized
  have h_inX3 : ∀ w ∈ wsX30, w ∈ wsX3_gets := fun _ h => List.mem_cons_of_mem _ (List.mem_append_right _ h)
  have k_0 := hts (.fieldLink RX3 45 "DetentCabinetModel" "open" "[I") (by decide +kernel)
  have k_1 := hts (.fieldLink RX3 48 "DetentCabinetModel" "nextRod" "[I") (by decide +kernel)
  have hl := lv_entry ([.ref (b 0), .int p0, .long p1]) (n := 7) (Nat.le_of_ble_eq_true rfl)
  rw [lg_entry_eq]
  generalize (lg_sl ([.ref (b 0), .int p0, .long p1]) ++ List.replicate (7 - (lg_sl ([.ref (b 0), .int p0, .long p1])).length) Slot.unset).toArray = ls at hl ⊢
  have hl : lv_has ls 7 [(0, .ref (b 0)), (1, .int p0), (2, .long p1)] := hl
  refine lv_aload_n hx hb dX3_gets_0 rfl (lv_at hl 0 rfl) ?_
  refine lv_iload_n hx hb dX3_gets_1 rfl (lv_at hl 1 rfl) ?_
  refine lv_lload_n hx hb dX3_gets_2 rfl (lv_at hl 2 rfl) ?_
  have hFc := va_free (wc := (wM cI cJ cZ b kd vl lo hi nd so fr tg gn nr kp ah kx st mo ma fa op nx)) hD hS hA [0, 1, 2, 3, 4, 5, 6, 7, 8, 9, 10, 11, 12, 13] rfl
  refine va_calli (va_runV (As := [.int p0, .long p1]) (rest := []) ⟨hx, hb, hml, hown, hts⟩ (c_X3_moved l dC dI cI cJ cZ b kd vl lo hi nd so fr tg gn nr kp ah kx st mo ma fa op nx p0 p1 hd s.heap.size) (cwV 2 hts gX3_gets_X3_moved rfl rfl rfl (by decide +kernel) ⟨Nat.le_of_ble_eq_true rfl, Nat.le_of_ble_eq_true rfl⟩) (fb_m hK hP hD (va_recv hK hP (ci := 2) (q0 := 0) rfl rfl)) rfl rfl hl.1 rfl (lv_room (Nat.le_of_ble_eq_true rfl)) dX3_gets_3 ⟨Nat.zero_le _, Nat.zero_le _⟩) hS (fun q _ h => hFc q h) hFc (fun r_1 u t H1 locs ht hvm hw_1 hB hz1 hk1 hS => ?_)
  unfold m_moved at hw_1
  by_cases c_2 : (m_fitted kd lo hi p0 p1) = (vl p0.toNatClampNeg)
  · skip
    rw [if_pos c_2] at hw_1
    obtain ⟨kd_1, vl_1, lo_1, hi_1, nd_1, so_1, fr_1, tg_1, gn_1, nr_1, kp_1, ah_1, kx_1, st_1, mo_1, ma_1, fa_1, op_1, nx_1⟩ := u
    have hw_1 := hw_1.symm
    simp only [Prod.mk.injEq] at hw_1
    obtain ⟨rfl, rfl, rfl, rfl, rfl, rfl, rfl, rfl, rfl, rfl, rfl, rfl, rfl, rfl, rfl, rfl, rfl, rfl, rfl, rfl⟩ := hw_1
    obtain ⟨hP1, hK1, hD1⟩ := hB
    rw [ht] at hP1
    obtain ⟨hP, hD⟩ := va_join (wr := []) (w1 := (wM cI cJ cZ b kd vl lo hi nd so fr tg gn nr kp ah kx st mo ma fa op nx)) hP hD [0, 1, 2, 3, 4, 5, 6, 7, 8, 9, 10, 11, 12, 13] [] rfl rfl (by decide) (by decide) hk1 hFc hP1 hD1
    generalize H1 = H at hP hS ⊢
    have hP : va_P (dC, dI) vwCl (wM cI cJ cZ b kd vl lo hi nd so fr tg gn nr kp ah kx st mo ma fa op nx) H := hP
    have hD : va_D A (wM cI cJ cZ b kd vl lo hi nd so fr tg gn nr kp ah kx st mo ma fa op nx) := hD
    refine lv_if_ne (tgt := 10) hx hb dX3_gets_6 (by decide) (fun c_3 => ?_) (fun c_3 => ?_)
    · skip
      exact absurd (by decide) c_3
    · skip
      exact W.vret hx hb hr (fun t ht hW => ⟨⟨(kd, vl, lo, hi, nd, so, fr, tg, gn, nr, kp, ah, kx, st, mo, ma, fa, op, nx), rfl, ⟨op, nx, (congrArg (fun G => mg_tup kd lo hi nd so fr tg nr kp ah kx st ma fa G op nx) (t_same (u := (vl, gn, mo)) c_2)).symm⟩, by rw [ht]; exact hP, va_K.moved hW.alike hK, hD⟩, hS.F ht⟩) hS.2.2 dX3_gets_9
  · skip
    rw [if_neg c_2] at hw_1
    obtain ⟨kd_1, vl_1, lo_1, hi_1, nd_1, so_1, fr_1, tg_1, gn_1, nr_1, kp_1, ah_1, kx_1, st_1, mo_1, ma_1, fa_1, op_1, nx_1⟩ := u
    have hw_1 := hw_1.symm
    simp only [Prod.mk.injEq] at hw_1
    obtain ⟨rfl, rfl, rfl, rfl, rfl, rfl, rfl, rfl, rfl, rfl, rfl, rfl, rfl, rfl, rfl, rfl, rfl, rfl, rfl, rfl⟩ := hw_1
    obtain ⟨hP1, hK1, hD1⟩ := hB
    rw [ht] at hP1
    obtain ⟨hP, hD⟩ := va_join (wr := []) (w1 := (wM cI cJ cZ b kd (vp_updL vl p0.toNatClampNeg (m_fitted kd lo hi p0 p1)) lo hi nd so fr tg gn nr kp ah kx st (mo + (1 : Int32)) ma fa op nx)) hP hD [0, 1, 2, 3, 4, 5, 6, 7, 8, 9, 10, 11, 12, 13] [] rfl rfl (by decide) (by decide) hk1 hFc hP1 hD1
    generalize H1 = H at hP hS ⊢
    have hP : va_P (dC, dI) vwCl (wM cI cJ cZ b kd (vp_updL vl p0.toNatClampNeg (m_fitted kd lo hi p0 p1)) lo hi nd so fr tg gn nr kp ah kx st (mo + (1 : Int32)) ma fa op nx) H := hP
    have hD : va_D A (wM cI cJ cZ b kd (vp_updL vl p0.toNatClampNeg (m_fitted kd lo hi p0 p1)) lo hi nd so fr tg gn nr kp ah kx st (mo + (1 : Int32)) ma fa op nx) := hD
    refine lv_if_ne (tgt := 10) hx hb dX3_gets_6 (by decide) (fun c_4 => ?_) (fun c_4 => ?_)
    · skip
      refine lv_aload_n hx hb dX3_gets_10 rfl (lv_at hl 0 rfl) ?_
      refine va_get (D := (dC, dI)) (ci := 2) (v := .ref (b 12)) (C := RX3) (T := TX3) (N := 19) hx hb hts h_inX3 hown hK hP 0 rfl rfl 17 (by decide) k_0 (fun _ h9 => h9) rfl dX3_gets_11 ?_
      refine lv_iconst (v := 0) hx hb dX3_gets_14 (by decide) ?_
      refine lv_iload_n hx hb dX3_gets_15 rfl (lv_at hl 1 rfl) ?_
      refine va_iast hx hb hK hP hD hS 12 0 rfl rfl (vp_in_nI (n := 0) (by decide) (by decide)) dX3_gets_16 (fun H locs hP hD hS => ?_)
      have hP : va_P (dC, dI) vwCl (wM cI cJ cZ b kd (vp_updL vl p0.toNatClampNeg (m_fitted kd lo hi p0 p1)) lo hi nd so fr tg gn nr kp ah kx st (mo + (1 : Int32)) ma fa (upd op (0 : Int32).toNatClampNeg p0) nx) H := hP
      have hD : va_D A (wM cI cJ cZ b kd (vp_updL vl p0.toNatClampNeg (m_fitted kd lo hi p0 p1)) lo hi nd so fr tg gn nr kp ah kx st (mo + (1 : Int32)) ma fa (upd op (0 : Int32).toNatClampNeg p0) nx) := hD
      refine lv_aload_n hx hb dX3_gets_17 rfl (lv_at hl 0 rfl) ?_
      refine va_get (D := (dC, dI)) (ci := 2) (v := .ref (b 13)) (C := RX3) (T := TX3) (N := 19) hx hb hts h_inX3 hown hK hP 0 rfl rfl 18 (by decide) k_1 (fun _ h9 => h9) rfl dX3_gets_18 ?_
      refine lv_iconst (v := 0) hx hb dX3_gets_21 (by decide) ?_
      refine lv_iconst (v := 0) hx hb dX3_gets_22 (by decide) ?_
      refine va_iast hx hb hK hP hD hS 13 0 rfl rfl (vp_in_nI (n := 0) (by decide) (by decide)) dX3_gets_23 (fun H locs hP hD hS => ?_)
      have hP : va_P (dC, dI) vwCl (wM cI cJ cZ b kd (vp_updL vl p0.toNatClampNeg (m_fitted kd lo hi p0 p1)) lo hi nd so fr tg gn nr kp ah kx st (mo + (1 : Int32)) ma fa (upd op (0 : Int32).toNatClampNeg p0) (upd nx (0 : Int32).toNatClampNeg (0 : Int32))) H := hP
      have hD : va_D A (wM cI cJ cZ b kd (vp_updL vl p0.toNatClampNeg (m_fitted kd lo hi p0 p1)) lo hi nd so fr tg gn nr kp ah kx st (mo + (1 : Int32)) ma fa (upd op (0 : Int32).toNatClampNeg p0) (upd nx (0 : Int32).toNatClampNeg (0 : Int32))) := hD
      refine lv_iconst (v := 1) hx hb dX3_gets_24 (by decide) ?_
      refine lv_istore (lv' := [(4, .int (1 : Int32)), (0, .ref (b 0)), (1, .int p0), (2, .long p1)]) hx hb dX3_gets_25 hl (by decide) rfl (fun ls hl => ?_)
      exact mg_loop kd lo hi nd so fr tg nr kp ah kx st ma fa nr.toNatClampNeg p0 p1 (t_gets kd lo hi so fr tg nr.toNatClampNeg 25 (vl, gn, mo) p0 p1) ⟨hx, hb, hml, hown, hts⟩ hA hK htg (nr_nat hnr).1 (nr_nat hnr).2 ⟨Nat.le_of_ble_eq_true rfl, Nat.le_of_ble_eq_true rfl⟩ (fun vl gn mo op nx H locs ls hres hP hD hS _ => W.vret hx hb hr (fun t ht hW => ⟨⟨(kd, vl, lo, hi, nd, so, fr, tg, gn, nr, kp, ah, kx, st, mo, ma, fa, op, nx), rfl, ⟨op, nx, (congrArg (fun G => mg_tup kd lo hi nd so fr tg nr kp ah kx st ma fa G op nx) hres).symm⟩, by rw [ht]; exact hP, va_K.moved hW.alike hK, hD⟩, hS.F ht⟩) hS.2.2 dX3_gets_189) (2 * nr.toNatClampNeg + 2) 1 _ (vp_updL vl p0.toNatClampNeg (m_fitted kd lo hi p0 p1)) gn (mo + (1 : Int32)) (upd op (0 : Int32).toNatClampNeg p0) (upd nx (0 : Int32).toNatClampNeg (0 : Int32)) H locs ls (by have := cnt_le gn nr.toNatClampNeg; omega) (by omega) (up_all (P := fun x => vp_in x 16) sb_cl0 (fun j h => absurd h (Nat.not_lt_zero j)) hd) (up_all (P := fun x => ∃ r, r ≤ nr.toNatClampNeg ∧ x = nI r) sb_cl0 (fun j h => absurd h (Nat.not_lt_zero j)) ⟨0, Nat.zero_le _, nI_0.symm⟩) rfl ((t_succ (u := (vl, gn, mo)) c_2).trans (t_push (D := 0) sb_cl0 sb_cl0 rfl).symm) hP hD hS (lv_sub hl [0, 1, 2, 3] rfl)
    · skip
      exact absurd c_4 (by decide)
