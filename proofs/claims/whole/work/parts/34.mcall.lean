set_option maxHeartbeats 4000000 in
set_option maxRecDepth 100000 in
theorem mc_a {p : Program} {l : Launch} {e : Env} {R : Room} {s : State} {m : MethodId} {args : Array Value} {below : List Frame} {meth : Method} {c : Code} {Q : State → Prop} {A : Nat → Prop} {dC : Nat → ClassId} {dI : Nat → Nat → Nat} {cI cJ cZ : ClassId} {b : Nat → Nat} (kd : Nat → Int32) (vl : Nat → Int64) (lo : Nat → Int64) (hi : Nat → Int64) (nd : Int32) (so : Nat → Int32) (fr : Nat → Int32) (tg : Nat → Int32) (gn : Nat → Int32) (nr : Int32) (kp : Nat → Int64) (ah : Nat → Int64) (kx : Nat → Int32) (st : Int32) (mo : Int32) (ma : Int32) (fa : Int32) (op : Nat → Int32) (nx : Nat → Int32) (p0 : Int32) (p1 : Int64) (C0 : CallFix p m c cX3_call 5 s args wsX3_call RX3) (hK : va_K (dC, dI) vwCl (tA cI cJ cZ) s)  (hend : ∀ (H : Heap) (locs : List Loc) (ls : Array Slot), va_P (dC, dI) vwCl (wM cI cJ cZ b kd vl lo hi nd so fr tg gn nr kp (cpx vl ah 16) kx st mo ma fa op nx) H → va_D A (wM cI cJ cZ b kd vl lo hi nd so fr tg gn nr kp (cpx vl ah 16) kx st mo ma fa op nx) → va_S A s.heap H locs → lv_has ls 5 [(0, .ref (b 0)), (1, .int p0), (2, .long p1)] → W p l e R s m args below meth c H locs 0 0 Q (F0 m 40 ls [])) :
    ∀ (n i : Nat) (x4 : Int32) (H : Heap) (locs : List Loc) (ls : Array Slot), i + n = 16 → x4 = nI i → va_P (dC, dI) vwCl (wM cI cJ cZ b kd vl lo hi nd so fr tg gn nr kp (cpx vl ah i) kx st mo ma fa op nx) H → va_D A (wM cI cJ cZ b kd vl lo hi nd so fr tg gn nr kp (cpx vl ah i) kx st mo ma fa op nx) → va_S A s.heap H locs → lv_has ls 5 [(4, .int x4), (0, .ref (b 0)), (1, .int p0), (2, .long p1)] → W p l e R s m args below meth c H locs 0 0 Q (F0 m 13 ls []) := by
  obtain ⟨hx, hb, hml, hown, hts⟩ := C0
  have h_inX3 : ∀ w ∈ wsX30, w ∈ wsX3_call := fun _ h => List.mem_cons_of_mem _ (List.mem_append_right _ h)
  have k_0 := hts (.fieldLink RX3 39 "DetentCabinetModel" "ahead" "[J") (by decide +kernel)
  have k_1 := hts (.fieldLink RX3 13 "DetentCabinetModel" "value" "[J") (by decide +kernel)
  intro n
  induction n with
  | zero =>
    intro i x4 H locs ls hin ex hP hD hS hl
    subst ex
    have hin9 : i = 16 := hin
    refine lv_iload hx hb dX3_call_13 (lv_at hl 0 rfl) ?_
    refine lv_bipush (v := 16) hx hb dX3_call_15 (by decide) ?_
    refine lv_icmp_ge (tgt := 40) hx hb dX3_call_17 (by decide) (fun c_1 => ?_) (fun c_1 => ?_)
    · skip
      exact hend H locs ls (by rw [← hin9]; exact hP) (by rw [← hin9]; exact hD) hS (lv_sub hl [1, 2, 3] rfl)
    · skip
      exact absurd (show nI 16 ≤ nI i from nI_le (by omega) (by omega)) c_1
  | succ n ih =>
    intro i x4 H locs ls hin ex hP hD hS hl
    subst ex
    refine lv_iload hx hb dX3_call_13 (lv_at hl 0 rfl) ?_
    refine lv_bipush (v := 16) hx hb dX3_call_15 (by decide) ?_
    refine lv_icmp_ge (tgt := 40) hx hb dX3_call_17 (by decide) (fun c_1 => ?_) (fun c_1 => ?_)
    · skip
      exact absurd (show nI 16 ≤ nI i from c_1) (nI_ge (by omega) (by decide))
    · skip
      refine lv_aload_n hx hb dX3_call_20 rfl (lv_at hl 1 rfl) ?_
      refine va_get (D := (dC, dI)) (ci := 2) (v := .ref (b 10)) (C := RX3) (T := TX3) (N := 19) hx hb hts h_inX3 hown hK hP 0 rfl rfl 11 (by decide) k_0 (fun _ h9 => h9) rfl dX3_call_21 ?_
      refine lv_iload hx hb dX3_call_24 (lv_at hl 0 rfl) ?_
      refine lv_aload_n hx hb dX3_call_26 rfl (lv_at hl 1 rfl) ?_
      refine va_get (D := (dC, dI)) (ci := 2) (v := .ref (b 2)) (C := RX3) (T := TX3) (N := 19) hx hb hts h_inX3 hown hK hP 0 rfl rfl 1 (by decide) k_1 (fun _ h9 => h9) rfl dX3_call_27 ?_
      refine lv_iload hx hb dX3_call_30 (lv_at hl 0 rfl) ?_
      refine va_lald hx hb hK hP 2 1 rfl rfl (vp_in_nI (by omega) (by decide)) dX3_call_32 ?_
      refine va_last hx hb hK hP hD hS 10 1 rfl rfl (vp_in_nI (by omega) (by decide)) dX3_call_33 (fun H locs hP hD hS => ?_)
      have hP : va_P (dC, dI) vwCl (wM cI cJ cZ b kd vl lo hi nd so fr tg gn nr kp (vp_updL (cpx vl ah i) (nI i).toNatClampNeg (vl (nI i).toNatClampNeg)) kx st mo ma fa op nx) H := hP
      have hD : va_D A (wM cI cJ cZ b kd vl lo hi nd so fr tg gn nr kp (vp_updL (cpx vl ah i) (nI i).toNatClampNeg (vl (nI i).toNatClampNeg)) kx st mo ma fa op nx) := hD
      refine lv_iinc (v := ((nI i) + 1)) (lv' := [(4, .int ((nI i) + 1)), (0, .ref (b 0)), (1, .int p0), (2, .long p1)]) hx hb dX3_call_34 hl (k := 0) rfl rfl (by decide) rfl (fun ls hl => ?_)
      refine lv_goto (tgt := 13) hx hb dX3_call_37 (by decide) ?_
      rw [cpx_s vl ah (by omega)] at hP hD
      exact ih (i + 1) _ H locs ls (by omega) (nI_1 i) hP hD hS (lv_sub hl [0, 1, 2, 3] rfl)
set_option maxHeartbeats 4000000 in
set_option maxRecDepth 100000 in
theorem mc_b {p : Program} {l : Launch} {e : Env} {R : Room} {s : State} {m : MethodId} {args : Array Value} {below : List Frame} {meth : Method} {c : Code} {Q : State → Prop} {A : Nat → Prop} {dC : Nat → ClassId} {dI : Nat → Nat → Nat} {cI cJ cZ : ClassId} {b : Nat → Nat} (kd : Nat → Int32) (vl : Nat → Int64) (lo : Nat → Int64) (hi : Nat → Int64) (nd : Int32) (so : Nat → Int32) (fr : Nat → Int32) (tg : Nat → Int32) (gn : Nat → Int32) (nr : Int32) (kp : Nat → Int64) (ah : Nat → Int64) (kx : Nat → Int32) (st : Int32) (mo : Int32) (ma : Int32) (fa : Int32) (op : Nat → Int32) (nx : Nat → Int32) (p0 : Int32) (p1 : Int64) (C0 : CallFix p m c cX3_call 5 s args wsX3_call RX3) (hK : va_K (dC, dI) vwCl (tA cI cJ cZ) s)  (hend : ∀ (H : Heap) (locs : List Loc) (ls : Array Slot), va_P (dC, dI) vwCl (wM cI cJ cZ b kd vl lo hi nd so fr tg (clr gn 24) nr kp ah kx st mo ma fa op nx) H → va_D A (wM cI cJ cZ b kd vl lo hi nd so fr tg (clr gn 24) nr kp ah kx st mo ma fa op nx) → va_S A s.heap H locs → lv_has ls 5 [(0, .ref (b 0)), (1, .int p0), (2, .long p1)] → W p l e R s m args below meth c H locs 0 0 Q (F0 m 64 ls [])) :
    ∀ (n i : Nat) (x4 : Int32) (H : Heap) (locs : List Loc) (ls : Array Slot), i + n = 24 → x4 = nI i → va_P (dC, dI) vwCl (wM cI cJ cZ b kd vl lo hi nd so fr tg (clr gn i) nr kp ah kx st mo ma fa op nx) H → va_D A (wM cI cJ cZ b kd vl lo hi nd so fr tg (clr gn i) nr kp ah kx st mo ma fa op nx) → va_S A s.heap H locs → lv_has ls 5 [(4, .int x4), (0, .ref (b 0)), (1, .int p0), (2, .long p1)] → W p l e R s m args below meth c H locs 0 0 Q (F0 m 43 ls []) := by
  obtain ⟨hx, hb, hml, hown, hts⟩ := C0
  have h_inX3 : ∀ w ∈ wsX30, w ∈ wsX3_call := fun _ h => List.mem_cons_of_mem _ (List.mem_append_right _ h)
  have k_0 := hts (.fieldLink RX3 32 "DetentCabinetModel" "gone" "[Z") (by decide +kernel)
  intro n
  induction n with
  | zero =>
    intro i x4 H locs ls hin ex hP hD hS hl
    subst ex
    have hin9 : i = 24 := hin
    refine lv_iload hx hb dX3_call_43 (lv_at hl 0 rfl) ?_
    refine lv_bipush (v := 24) hx hb dX3_call_45 (by decide) ?_
    refine lv_icmp_ge (tgt := 64) hx hb dX3_call_47 (by decide) (fun c_1 => ?_) (fun c_1 => ?_)
    · skip
      exact hend H locs ls (by rw [← hin9]; exact hP) (by rw [← hin9]; exact hD) hS (lv_sub hl [1, 2, 3] rfl)
    · skip
      exact absurd (show nI 24 ≤ nI i from nI_le (by omega) (by omega)) c_1
  | succ n ih =>
    intro i x4 H locs ls hin ex hP hD hS hl
    subst ex
    refine lv_iload hx hb dX3_call_43 (lv_at hl 0 rfl) ?_
    refine lv_bipush (v := 24) hx hb dX3_call_45 (by decide) ?_
    refine lv_icmp_ge (tgt := 64) hx hb dX3_call_47 (by decide) (fun c_1 => ?_) (fun c_1 => ?_)
    · skip
      exact absurd (show nI 24 ≤ nI i from c_1) (nI_ge (by omega) (by decide))
    · skip
      refine lv_aload_n hx hb dX3_call_50 rfl (lv_at hl 1 rfl) ?_
      refine va_get (D := (dC, dI)) (ci := 2) (v := .ref (b 8)) (C := RX3) (T := TX3) (N := 19) hx hb hts h_inX3 hown hK hP 0 rfl rfl 8 (by decide) k_0 (fun _ h9 => h9) rfl dX3_call_51 ?_
      refine lv_iload hx hb dX3_call_54 (lv_at hl 0 rfl) ?_
      refine lv_iconst (v := 0) hx hb dX3_call_56 (by decide) ?_
      refine va_zast hx hb hK hP hD hS 8 2 rfl rfl (vp_in_nI (by omega) (by decide)) dX3_call_57 (fun H locs hP hD hS => ?_)
      rw [nar_0] at hP hD
      have hP : va_P (dC, dI) vwCl (wM cI cJ cZ b kd vl lo hi nd so fr tg (upd (clr gn i) (nI i).toNatClampNeg (0 : Int32)) nr kp ah kx st mo ma fa op nx) H := hP
      have hD : va_D A (wM cI cJ cZ b kd vl lo hi nd so fr tg (upd (clr gn i) (nI i).toNatClampNeg (0 : Int32)) nr kp ah kx st mo ma fa op nx) := hD
      refine lv_iinc (v := ((nI i) + 1)) (lv' := [(4, .int ((nI i) + 1)), (0, .ref (b 0)), (1, .int p0), (2, .long p1)]) hx hb dX3_call_58 hl (k := 0) rfl rfl (by decide) rfl (fun ls hl => ?_)
      refine lv_goto (tgt := 43) hx hb dX3_call_61 (by decide) ?_
      rw [clr_s gn (by omega)] at hP hD
      exact ih (i + 1) _ H locs ls (by omega) (nI_1 i) hP hD hS (lv_sub hl [0, 1, 2, 3] rfl)
def m_call (kd : Nat → Int32) (vl : Nat → Int64) (lo : Nat → Int64) (hi : Nat → Int64) (nd : Int32) (so : Nat → Int32) (fr : Nat → Int32) (tg : Nat → Int32) (gn : Nat → Int32) (nr : Int32) (kp : Nat → Int64) (ah : Nat → Int64) (kx : Nat → Int32) (st : Int32) (mo : Int32) (ma : Int32) (fa : Int32) (op : Nat → Int32) (nx : Nat → Int32) (p0 : Int32) (p1 : Int64) (op9 : Nat → Int32) (nx9 : Nat → Int32) : Int32 × MS :=
  if (t_gets kd lo hi so fr tg nr.toNatClampNeg 25 (vl, (clr gn 24), (0 : Int32)) p0 p1).2.2 ≤ 0 then ((t_gets kd lo hi so fr tg nr.toNatClampNeg 25 (vl, (clr gn 24), (0 : Int32)) p0 p1).2.2, kd, (t_gets kd lo hi so fr tg nr.toNatClampNeg 25 (vl, (clr gn 24), (0 : Int32)) p0 p1).1, lo, hi, nd, so, fr, tg, (t_gets kd lo hi so fr tg nr.toNatClampNeg 25 (vl, (clr gn 24), (0 : Int32)) p0 p1).2.1, nr, kp, (cpx vl ah 16), kx, st, (t_gets kd lo hi so fr tg nr.toNatClampNeg 25 (vl, (clr gn 24), (0 : Int32)) p0 p1).2.2, (ma + (t_gets kd lo hi so fr tg nr.toNatClampNeg 25 (vl, (clr gn 24), (0 : Int32)) p0 p1).2.2), (0 : Int32), op9, nx9)
  else ((t_gets kd lo hi so fr tg nr.toNatClampNeg 25 (vl, (clr gn 24), (0 : Int32)) p0 p1).2.2, kd, (t_gets kd lo hi so fr tg nr.toNatClampNeg 25 (vl, (clr gn 24), (0 : Int32)) p0 p1).1, lo, hi, nd, so, fr, tg, (t_gets kd lo hi so fr tg nr.toNatClampNeg 25 (vl, (clr gn 24), (0 : Int32)) p0 p1).2.1, nr, (if st = 6 then pst (cpx vl ah 16) (dnL kp 80) (st - 1) 16 else pst (cpx vl ah 16) kp st 16), (cpx vl ah 16), (if st = 6 then upd (dnI kx 5) (st - 1).toNatClampNeg nd else upd kx st.toNatClampNeg nd), (if st = 6 then st - 1 + 1 else st + 1), (t_gets kd lo hi so fr tg nr.toNatClampNeg 25 (vl, (clr gn 24), (0 : Int32)) p0 p1).2.2, (ma + (t_gets kd lo hi so fr tg nr.toNatClampNeg 25 (vl, (clr gn 24), (0 : Int32)) p0 p1).2.2), (0 : Int32), op9, nx9)
set_option maxHeartbeats 4000000 in
set_option maxRecDepth 100000 in
theorem c_X3_call (l : Launch) (dC : Nat → ClassId) (dI : Nat → Nat → Nat) (cI cJ cZ : ClassId) (b : Nat → Nat) (kd : Nat → Int32) (vl : Nat → Int64) (lo : Nat → Int64) (hi : Nat → Int64) (nd : Int32) (so : Nat → Int32) (fr : Nat → Int32) (tg : Nat → Int32) (gn : Nat → Int32) (nr : Int32) (kp : Nat → Int64) (ah : Nat → Int64) (kx : Nat → Int32) (st : Int32) (mo : Int32) (ma : Int32) (fa : Int32) (op : Nat → Int32) (nx : Nat → Int32) (p0 : Int32) (p1 : Int64) (hnr : 0 ≤ nr ∧ nr ≤ 24) (htg : ∀ j, vp_in (tg j) 16) (hst : 0 ≤ st ∧ st ≤ 6) (hd : vp_in p0 16) (sz : Nat) : Met l yX3_call wsX3_call ({ frames := 7, cells := 0, slots := 0, locals := 169 }) (va_Pc [.ref (b 0), .int p0, .long p1] (fun U => U.heap.size = sz ∧ va_P (dC, dI) vwCl (wM cI cJ cZ b kd vl lo hi nd so fr tg gn nr kp ah kx st mo ma fa op nx) U.heap ∧ va_K (dC, dI) vwCl (tA cI cJ cZ) U ∧ va_D (fun _ => True) (wM cI cJ cZ b kd vl lo hi nd so fr tg gn nr kp ah kx st mo ma fa op nx))) (va_Qi (fun (r : Int32) (u : MS) => ∃ op9 nx9 : Nat → Int32, (r, u) = m_call kd vl lo hi nd so fr tg gn nr kp ah kx st mo ma fa op nx p0 p1 op9 nx9) (at_M dC dI cI cJ cZ (va_A (wM cI cJ cZ b kd vl lo hi nd so fr tg gn nr kp ah kx st mo ma fa op nx) sz) b) (va_A (wM cI cJ cZ b kd vl lo hi nd so fr tg gn nr kp ah kx st mo ma fa op nx) sz)) 0 0 (va_A (wM cI cJ cZ b kd vl lo hi nd so fr tg gn nr kp ah kx st mo ma fa op nx) sz) := by
  refine Met.ofW (cc := cX3_call) (maxL := 5) (ret := (some .int)) (by decide) rfl ?_
  intro p e s m args below meth c s₁ B hml hv
  obtain ⟨rfl, hsz, hP, hK, hD0⟩ := hv
  subst hsz
  have hD := hD0.self (sz := s.heap.size)
  generalize hAe : va_A (wM cI cJ cZ b kd vl lo hi nd so fr tg gn nr kp ah kx st mo ma fa op nx) s.heap.size = A at hD ⊢
  have hA : ∀ q : Nat, s.heap.size ≤ q → A q := fun q h => by rw [← hAe]; exact Or.inr h
  have hS : va_S A s.heap s.heap [] := va_S.rf
  have hP : va_P (dC, dI) vwCl (wM cI cJ cZ b kd vl lo hi nd so fr tg gn nr kp ah kx st mo ma fa op nx) s.heap := hP
  have hx := B.exec
  have hb := B.bytes
  have hr := B.returns
  have hts := atoms_spec (ws := wsX3_call) B.pre
  have hown : s.vm.findClass RX3 = some m.cls := findClass_of_methodNamed B.named
  have hlocks := B.notSynchronized
  have h_inX3 : ∀ w ∈ wsX30, w ∈ wsX3_call := fun _ h => List.mem_cons_of_mem _ (List.mem_append_right _ h)
  have k_0 := hts (.fieldLink RX3 55 "DetentCabinetModel" "fault" "I") (by decide +kernel)
  have k_1 := hts (.fieldLink RX3 119 "DetentCabinetModel" "moves" "I") (by decide +kernel)
  have k_2 := hts (.fieldLink RX3 137 "DetentCabinetModel" "movesInAll" "I") (by decide +kernel)
  have hl := lv_entry ([.ref (b 0), .int p0, .long p1]) (n := 5) (Nat.le_of_ble_eq_true rfl)
  rw [lg_entry_eq]
  generalize (lg_sl ([.ref (b 0), .int p0, .long p1]) ++ List.replicate (5 - (lg_sl ([.ref (b 0), .int p0, .long p1])).length) Slot.unset).toArray = ls at hl ⊢
  have hl : lv_has ls 5 [(0, .ref (b 0)), (1, .int p0), (2, .long p1)] := hl
  refine lv_aload_n hx hb dX3_call_0 rfl (lv_at hl 0 rfl) ?_
  refine lv_iconst (v := 0) hx hb dX3_call_1 (by decide) ?_
  refine va_put (D := (dC, dI)) (ci := 2) (v := .int (0 : Int32)) (ty := .int) (C := RX3) (T := TX3) (N := 19) hx hb hts h_inX3 tyX3 tyX3_ok nmX3 hown hK hP hD hS 0 rfl rfl 16 (by decide) k_0 (fun _ h9 => h9) rfl (by decide +kernel) rfl rfl (Nat.le_of_ble_eq_true rfl) dX3_call_2 (fun H locs hP hD hS => ?_)
  have hP : va_P (dC, dI) vwCl (wM cI cJ cZ b kd vl lo hi nd so fr tg gn nr kp ah kx st mo ma (0 : Int32) op nx) H := hP
  have hD : va_D A (wM cI cJ cZ b kd vl lo hi nd so fr tg gn nr kp ah kx st mo ma (0 : Int32) op nx) := hD
  refine lv_aload_n hx hb dX3_call_5 rfl (lv_at hl 0 rfl) ?_
  refine lv_iconst (v := 0) hx hb dX3_call_6 (by decide) ?_
  refine va_put (D := (dC, dI)) (ci := 2) (v := .int (0 : Int32)) (ty := .int) (C := RX3) (T := TX3) (N := 19) hx hb hts h_inX3 tyX3 tyX3_ok nmX3 hown hK hP hD hS 0 rfl rfl 14 (by decide) k_1 (fun _ h9 => h9) rfl (by decide +kernel) rfl rfl (Nat.le_of_ble_eq_true rfl) dX3_call_7 (fun H locs hP hD hS => ?_)
  have hP : va_P (dC, dI) vwCl (wM cI cJ cZ b kd vl lo hi nd so fr tg gn nr kp ah kx st (0 : Int32) ma (0 : Int32) op nx) H := hP
  have hD : va_D A (wM cI cJ cZ b kd vl lo hi nd so fr tg gn nr kp ah kx st (0 : Int32) ma (0 : Int32) op nx) := hD
  refine lv_iconst (v := 0) hx hb dX3_call_10 (by decide) ?_
  refine lv_istore (lv' := [(4, .int (0 : Int32)), (0, .ref (b 0)), (1, .int p0), (2, .long p1)]) hx hb dX3_call_11 hl (by decide) rfl (fun ls hl => ?_)
  refine mc_a kd vl lo hi nd so fr tg gn nr kp ah kx st (0 : Int32) ma (0 : Int32) op nx p0 p1 ⟨hx, hb, hml, hown, hts⟩ hK  (fun H locs ls hP hD hS hl => ?_) 16 0 _ _ _ ls (by omega) nI_0.symm (by rw [cpx_0]; exact hP) (by rw [cpx_0]; exact hD) hS (lv_sub hl [0, 1, 2, 3] rfl)
  have hP : va_P (dC, dI) vwCl (wM cI cJ cZ b kd vl lo hi nd so fr tg gn nr kp (cpx vl ah 16) kx st (0 : Int32) ma (0 : Int32) op nx) H := hP
  have hD : va_D A (wM cI cJ cZ b kd vl lo hi nd so fr tg gn nr kp (cpx vl ah 16) kx st (0 : Int32) ma (0 : Int32) op nx) := hD
  refine lv_iconst (v := 0) hx hb dX3_call_40 (by decide) ?_
  refine lv_istore (lv' := [(4, .int (0 : Int32)), (0, .ref (b 0)), (1, .int p0), (2, .long p1)]) hx hb dX3_call_41 hl (by decide) rfl (fun ls hl => ?_)
  refine mc_b kd vl lo hi nd so fr tg gn nr kp (cpx vl ah 16) kx st (0 : Int32) ma (0 : Int32) op nx p0 p1 ⟨hx, hb, hml, hown, hts⟩ hK  (fun H locs ls hP hD hS hl => ?_) 24 0 _ _ _ ls (by omega) nI_0.symm (by rw [clr_0]; exact hP) (by rw [clr_0]; exact hD) hS (lv_sub hl [0, 1, 2, 3] rfl)
  have hP : va_P (dC, dI) vwCl (wM cI cJ cZ b kd vl lo hi nd so fr tg (clr gn 24) nr kp (cpx vl ah 16) kx st (0 : Int32) ma (0 : Int32) op nx) H := hP
  have hD : va_D A (wM cI cJ cZ b kd vl lo hi nd so fr tg (clr gn 24) nr kp (cpx vl ah 16) kx st (0 : Int32) ma (0 : Int32) op nx) := hD
  refine lv_aload_n hx hb dX3_call_64 rfl (lv_at hl 0 rfl) ?_
  refine lv_iload_n hx hb dX3_call_65 rfl (lv_at hl 1 rfl) ?_
  refine lv_lload_n hx hb dX3_call_66 rfl (lv_at hl 2 rfl) ?_
  have hFc := va_free (wc := (wM cI cJ cZ b kd vl lo hi nd so fr tg (clr gn 24) nr kp (cpx vl ah 16) kx st (0 : Int32) ma (0 : Int32) op nx)) hD hS hA [0, 1, 2, 3, 4, 5, 6, 7, 8, 9, 10, 11, 12, 13] rfl
  refine va_callv (va_runV (As := [.int p0, .long p1]) (rest := []) ⟨hx, hb, hml, hown, hts⟩ (c_X3_gets l dC dI cI cJ cZ b kd vl lo hi nd so fr tg (clr gn 24) nr kp (cpx vl ah 16) kx st (0 : Int32) ma (0 : Int32) op nx p0 p1 hnr htg hd H.size) (cwV 2 hts gX3_call_X3_gets rfl rfl rfl (by decide +kernel) ⟨Nat.le_of_ble_eq_true rfl, Nat.le_of_ble_eq_true rfl⟩) (fb_m hK hP hD (va_recv hK hP (ci := 2) (q0 := 0) rfl rfl)) rfl rfl hl.1 rfl (lv_room (Nat.le_of_ble_eq_true rfl)) dX3_call_67 ⟨Nat.zero_le _, Nat.zero_le _⟩) hS (fun q _ h => hFc q h) hFc (fun u t H1 locs ht hvm hw_1 hB hz1 hk1 hS => ?_)
  obtain ⟨op9_1, nx9_1, hw_1⟩ := hw_1
  obtain ⟨kd_1, vl_1, lo_1, hi_1, nd_1, so_1, fr_1, tg_1, gn_1, nr_1, kp_1, ah_1, kx_1, st_1, mo_1, ma_1, fa_1, op_1, nx_1⟩ := u
  have hw_1 := hw_1.symm
  simp only [Prod.mk.injEq] at hw_1
  obtain ⟨rfl, rfl, rfl, rfl, rfl, rfl, rfl, rfl, rfl, rfl, rfl, rfl, rfl, rfl, rfl, rfl, rfl, rfl, rfl⟩ := hw_1
  obtain ⟨hP1, hK1, hD1⟩ := hB
  rw [ht] at hP1
  obtain ⟨hP, hD⟩ := va_join (wr := []) (w1 := (wM cI cJ cZ b kd ((t_gets kd lo hi so fr tg nr.toNatClampNeg 25 (vl, (clr gn 24), (0 : Int32)) p0 p1).1) lo hi nd so fr tg ((t_gets kd lo hi so fr tg nr.toNatClampNeg 25 (vl, (clr gn 24), (0 : Int32)) p0 p1).2.1) nr kp (cpx vl ah 16) kx st ((t_gets kd lo hi so fr tg nr.toNatClampNeg 25 (vl, (clr gn 24), (0 : Int32)) p0 p1).2.2) ma (0 : Int32) op9_1 nx9_1)) hP hD [0, 1, 2, 3, 4, 5, 6, 7, 8, 9, 10, 11, 12, 13] [] rfl rfl (by decide) (by decide) hk1 hFc hP1 hD1
  generalize H1 = H at hP hS ⊢
  have hP : va_P (dC, dI) vwCl (wM cI cJ cZ b kd ((t_gets kd lo hi so fr tg nr.toNatClampNeg 25 (vl, (clr gn 24), (0 : Int32)) p0 p1).1) lo hi nd so fr tg ((t_gets kd lo hi so fr tg nr.toNatClampNeg 25 (vl, (clr gn 24), (0 : Int32)) p0 p1).2.1) nr kp (cpx vl ah 16) kx st ((t_gets kd lo hi so fr tg nr.toNatClampNeg 25 (vl, (clr gn 24), (0 : Int32)) p0 p1).2.2) ma (0 : Int32) op9_1 nx9_1) H := hP
  have hD : va_D A (wM cI cJ cZ b kd ((t_gets kd lo hi so fr tg nr.toNatClampNeg 25 (vl, (clr gn 24), (0 : Int32)) p0 p1).1) lo hi nd so fr tg ((t_gets kd lo hi so fr tg nr.toNatClampNeg 25 (vl, (clr gn 24), (0 : Int32)) p0 p1).2.1) nr kp (cpx vl ah 16) kx st ((t_gets kd lo hi so fr tg nr.toNatClampNeg 25 (vl, (clr gn 24), (0 : Int32)) p0 p1).2.2) ma (0 : Int32) op9_1 nx9_1) := hD
  refine lv_aload_n hx hb dX3_call_70 rfl (lv_at hl 0 rfl) ?_
  refine lv_dup hx hb dX3_call_71 rfl ?_
  refine va_get (D := (dC, dI)) (ci := 2) (v := .int ma) (C := RX3) (T := TX3) (N := 19) hx hb hts h_inX3 hown hK hP 0 rfl rfl 15 (by decide) k_2 (fun _ h9 => h9) rfl dX3_call_72 ?_
  refine lv_aload_n hx hb dX3_call_75 rfl (lv_at hl 0 rfl) ?_
  refine va_get (D := (dC, dI)) (ci := 2) (v := .int ((t_gets kd lo hi so fr tg nr.toNatClampNeg 25 (vl, (clr gn 24), (0 : Int32)) p0 p1).2.2)) (C := RX3) (T := TX3) (N := 19) hx hb hts h_inX3 hown hK hP 0 rfl rfl 14 (by decide) k_1 (fun _ h9 => h9) rfl dX3_call_76 ?_
  refine lv_iadd hx hb dX3_call_79 ?_
  refine va_put (D := (dC, dI)) (ci := 2) (v := .int (ma + (t_gets kd lo hi so fr tg nr.toNatClampNeg 25 (vl, (clr gn 24), (0 : Int32)) p0 p1).2.2)) (ty := .int) (C := RX3) (T := TX3) (N := 19) hx hb hts h_inX3 tyX3 tyX3_ok nmX3 hown hK hP hD hS 0 rfl rfl 15 (by decide) k_2 (fun _ h9 => h9) rfl (by decide +kernel) rfl rfl (Nat.le_of_ble_eq_true rfl) dX3_call_80 (fun H locs hP hD hS => ?_)
  have hP : va_P (dC, dI) vwCl (wM cI cJ cZ b kd ((t_gets kd lo hi so fr tg nr.toNatClampNeg 25 (vl, (clr gn 24), (0 : Int32)) p0 p1).1) lo hi nd so fr tg ((t_gets kd lo hi so fr tg nr.toNatClampNeg 25 (vl, (clr gn 24), (0 : Int32)) p0 p1).2.1) nr kp (cpx vl ah 16) kx st ((t_gets kd lo hi so fr tg nr.toNatClampNeg 25 (vl, (clr gn 24), (0 : Int32)) p0 p1).2.2) (ma + (t_gets kd lo hi so fr tg nr.toNatClampNeg 25 (vl, (clr gn 24), (0 : Int32)) p0 p1).2.2) (0 : Int32) op9_1 nx9_1) H := hP
  have hD : va_D A (wM cI cJ cZ b kd ((t_gets kd lo hi so fr tg nr.toNatClampNeg 25 (vl, (clr gn 24), (0 : Int32)) p0 p1).1) lo hi nd so fr tg ((t_gets kd lo hi so fr tg nr.toNatClampNeg 25 (vl, (clr gn 24), (0 : Int32)) p0 p1).2.1) nr kp (cpx vl ah 16) kx st ((t_gets kd lo hi so fr tg nr.toNatClampNeg 25 (vl, (clr gn 24), (0 : Int32)) p0 p1).2.2) (ma + (t_gets kd lo hi so fr tg nr.toNatClampNeg 25 (vl, (clr gn 24), (0 : Int32)) p0 p1).2.2) (0 : Int32) op9_1 nx9_1) := hD
  refine lv_aload_n hx hb dX3_call_83 rfl (lv_at hl 0 rfl) ?_
  refine va_get (D := (dC, dI)) (ci := 2) (v := .int ((t_gets kd lo hi so fr tg nr.toNatClampNeg 25 (vl, (clr gn 24), (0 : Int32)) p0 p1).2.2)) (C := RX3) (T := TX3) (N := 19) hx hb hts h_inX3 hown hK hP 0 rfl rfl 14 (by decide) k_1 (fun _ h9 => h9) rfl dX3_call_84 ?_
  refine lv_if_le (tgt := 94) hx hb dX3_call_87 (by decide) (fun c_2 => ?_) (fun c_2 => ?_)
  · skip
    refine lv_aload_n hx hb dX3_call_94 rfl (lv_at hl 0 rfl) ?_
    refine va_get (D := (dC, dI)) (ci := 2) (v := .int ((t_gets kd lo hi so fr tg nr.toNatClampNeg 25 (vl, (clr gn 24), (0 : Int32)) p0 p1).2.2)) (C := RX3) (T := TX3) (N := 19) hx hb hts h_inX3 hown hK hP 0 rfl rfl 14 (by decide) k_1 (fun _ h9 => h9) rfl dX3_call_95 ?_
    exact W.iret (v := (t_gets kd lo hi so fr tg nr.toNatClampNeg 25 (vl, (clr gn 24), (0 : Int32)) p0 p1).2.2) hx hb hr (fun t ht hW => ⟨⟨(t_gets kd lo hi so fr tg nr.toNatClampNeg 25 (vl, (clr gn 24), (0 : Int32)) p0 p1).2.2, (kd, (t_gets kd lo hi so fr tg nr.toNatClampNeg 25 (vl, (clr gn 24), (0 : Int32)) p0 p1).1, lo, hi, nd, so, fr, tg, (t_gets kd lo hi so fr tg nr.toNatClampNeg 25 (vl, (clr gn 24), (0 : Int32)) p0 p1).2.1, nr, kp, (cpx vl ah 16), kx, st, (t_gets kd lo hi so fr tg nr.toNatClampNeg 25 (vl, (clr gn 24), (0 : Int32)) p0 p1).2.2, (ma + (t_gets kd lo hi so fr tg nr.toNatClampNeg 25 (vl, (clr gn 24), (0 : Int32)) p0 p1).2.2), (0 : Int32), op9_1, nx9_1), rfl, ⟨op9_1, nx9_1, (by unfold m_call; rw [if_pos c_2])⟩, by rw [ht]; exact hP, va_K.moved hW.alike hK, hD⟩, hS.F ht⟩) hS.2.2 dX3_call_98
  · skip
    refine lv_aload_n hx hb dX3_call_90 rfl (lv_at hl 0 rfl) ?_
    have hFc := va_free (wc := (wM cI cJ cZ b kd ((t_gets kd lo hi so fr tg nr.toNatClampNeg 25 (vl, (clr gn 24), (0 : Int32)) p0 p1).1) lo hi nd so fr tg ((t_gets kd lo hi so fr tg nr.toNatClampNeg 25 (vl, (clr gn 24), (0 : Int32)) p0 p1).2.1) nr kp (cpx vl ah 16) kx st ((t_gets kd lo hi so fr tg nr.toNatClampNeg 25 (vl, (clr gn 24), (0 : Int32)) p0 p1).2.2) (ma + (t_gets kd lo hi so fr tg nr.toNatClampNeg 25 (vl, (clr gn 24), (0 : Int32)) p0 p1).2.2) (0 : Int32) op9_1 nx9_1)) hD hS hA [0, 1, 2, 3, 4, 5, 6, 7, 8, 9, 10, 11, 12, 13] rfl
    refine va_callv (va_runV (As := []) (rest := []) ⟨hx, hb, hml, hown, hts⟩ (c_X3_keep l dC dI cI cJ cZ b kd ((t_gets kd lo hi so fr tg nr.toNatClampNeg 25 (vl, (clr gn 24), (0 : Int32)) p0 p1).1) lo hi nd so fr tg ((t_gets kd lo hi so fr tg nr.toNatClampNeg 25 (vl, (clr gn 24), (0 : Int32)) p0 p1).2.1) nr kp (cpx vl ah 16) kx st ((t_gets kd lo hi so fr tg nr.toNatClampNeg 25 (vl, (clr gn 24), (0 : Int32)) p0 p1).2.2) (ma + (t_gets kd lo hi so fr tg nr.toNatClampNeg 25 (vl, (clr gn 24), (0 : Int32)) p0 p1).2.2) (0 : Int32) op9_1 nx9_1  hst H.size) (cwV 0 hts gX3_call_X3_keep rfl rfl rfl (by decide +kernel) ⟨Nat.le_of_ble_eq_true rfl, Nat.le_of_ble_eq_true rfl⟩) (fb_m hK hP hD (va_recv hK hP (ci := 2) (q0 := 0) rfl rfl)) rfl rfl hl.1 rfl (lv_room (Nat.le_of_ble_eq_true rfl)) dX3_call_91 ⟨Nat.zero_le _, Nat.zero_le _⟩) hS (fun q _ h => hFc q h) hFc (fun u t H1 locs ht hvm hw_3 hB hz1 hk1 hS => ?_)
    obtain ⟨kd_3, vl_3, lo_3, hi_3, nd_3, so_3, fr_3, tg_3, gn_3, nr_3, kp_3, ah_3, kx_3, st_3, mo_3, ma_3, fa_3, op_3, nx_3⟩ := u
    rw [m_keep_eq] at hw_3
    have hw_3 := hw_3.symm
    simp only [Prod.mk.injEq] at hw_3
    obtain ⟨rfl, rfl, rfl, rfl, rfl, rfl, rfl, rfl, rfl, rfl, rfl, rfl, rfl, rfl, rfl, rfl, rfl, rfl, rfl⟩ := hw_3
    obtain ⟨hP1, hK1, hD1⟩ := hB
    rw [ht] at hP1
    obtain ⟨hP, hD⟩ := va_join (wr := []) (w1 := (wM cI cJ cZ b kd ((t_gets kd lo hi so fr tg nr.toNatClampNeg 25 (vl, (clr gn 24), (0 : Int32)) p0 p1).1) lo hi nd so fr tg ((t_gets kd lo hi so fr tg nr.toNatClampNeg 25 (vl, (clr gn 24), (0 : Int32)) p0 p1).2.1) nr (if st = 6 then pst (cpx vl ah 16) (dnL kp 80) (st - 1) 16 else pst (cpx vl ah 16) kp st 16) (cpx vl ah 16) (if st = 6 then upd (dnI kx 5) (st - 1).toNatClampNeg nd else upd kx st.toNatClampNeg nd) (if st = 6 then st - 1 + 1 else st + 1) ((t_gets kd lo hi so fr tg nr.toNatClampNeg 25 (vl, (clr gn 24), (0 : Int32)) p0 p1).2.2) (ma + (t_gets kd lo hi so fr tg nr.toNatClampNeg 25 (vl, (clr gn 24), (0 : Int32)) p0 p1).2.2) (0 : Int32) op9_1 nx9_1)) hP hD [0, 1, 2, 3, 4, 5, 6, 7, 8, 9, 10, 11, 12, 13] [] rfl rfl (by decide) (by decide) hk1 hFc hP1 hD1
    generalize H1 = H at hP hS ⊢
    have hP : va_P (dC, dI) vwCl (wM cI cJ cZ b kd ((t_gets kd lo hi so fr tg nr.toNatClampNeg 25 (vl, (clr gn 24), (0 : Int32)) p0 p1).1) lo hi nd so fr tg ((t_gets kd lo hi so fr tg nr.toNatClampNeg 25 (vl, (clr gn 24), (0 : Int32)) p0 p1).2.1) nr (if st = 6 then pst (cpx vl ah 16) (dnL kp 80) (st - 1) 16 else pst (cpx vl ah 16) kp st 16) (cpx vl ah 16) (if st = 6 then upd (dnI kx 5) (st - 1).toNatClampNeg nd else upd kx st.toNatClampNeg nd) (if st = 6 then st - 1 + 1 else st + 1) ((t_gets kd lo hi so fr tg nr.toNatClampNeg 25 (vl, (clr gn 24), (0 : Int32)) p0 p1).2.2) (ma + (t_gets kd lo hi so fr tg nr.toNatClampNeg 25 (vl, (clr gn 24), (0 : Int32)) p0 p1).2.2) (0 : Int32) op9_1 nx9_1) H := hP
    have hD : va_D A (wM cI cJ cZ b kd ((t_gets kd lo hi so fr tg nr.toNatClampNeg 25 (vl, (clr gn 24), (0 : Int32)) p0 p1).1) lo hi nd so fr tg ((t_gets kd lo hi so fr tg nr.toNatClampNeg 25 (vl, (clr gn 24), (0 : Int32)) p0 p1).2.1) nr (if st = 6 then pst (cpx vl ah 16) (dnL kp 80) (st - 1) 16 else pst (cpx vl ah 16) kp st 16) (cpx vl ah 16) (if st = 6 then upd (dnI kx 5) (st - 1).toNatClampNeg nd else upd kx st.toNatClampNeg nd) (if st = 6 then st - 1 + 1 else st + 1) ((t_gets kd lo hi so fr tg nr.toNatClampNeg 25 (vl, (clr gn 24), (0 : Int32)) p0 p1).2.2) (ma + (t_gets kd lo hi so fr tg nr.toNatClampNeg 25 (vl, (clr gn 24), (0 : Int32)) p0 p1).2.2) (0 : Int32) op9_1 nx9_1) := hD
    refine lv_aload_n hx hb dX3_call_94 rfl (lv_at hl 0 rfl) ?_
    refine va_get (D := (dC, dI)) (ci := 2) (v := .int ((t_gets kd lo hi so fr tg nr.toNatClampNeg 25 (vl, (clr gn 24), (0 : Int32)) p0 p1).2.2)) (C := RX3) (T := TX3) (N := 19) hx hb hts h_inX3 hown hK hP 0 rfl rfl 14 (by decide) k_1 (fun _ h9 => h9) rfl dX3_call_95 ?_
    exact W.iret (v := (t_gets kd lo hi so fr tg nr.toNatClampNeg 25 (vl, (clr gn 24), (0 : Int32)) p0 p1).2.2) hx hb hr (fun t ht hW => ⟨⟨(t_gets kd lo hi so fr tg nr.toNatClampNeg 25 (vl, (clr gn 24), (0 : Int32)) p0 p1).2.2, (kd, (t_gets kd lo hi so fr tg nr.toNatClampNeg 25 (vl, (clr gn 24), (0 : Int32)) p0 p1).1, lo, hi, nd, so, fr, tg, (t_gets kd lo hi so fr tg nr.toNatClampNeg 25 (vl, (clr gn 24), (0 : Int32)) p0 p1).2.1, nr, (if st = 6 then pst (cpx vl ah 16) (dnL kp 80) (st - 1) 16 else pst (cpx vl ah 16) kp st 16), (cpx vl ah 16), (if st = 6 then upd (dnI kx 5) (st - 1).toNatClampNeg nd else upd kx st.toNatClampNeg nd), (if st = 6 then st - 1 + 1 else st + 1), (t_gets kd lo hi so fr tg nr.toNatClampNeg 25 (vl, (clr gn 24), (0 : Int32)) p0 p1).2.2, (ma + (t_gets kd lo hi so fr tg nr.toNatClampNeg 25 (vl, (clr gn 24), (0 : Int32)) p0 p1).2.2), (0 : Int32), op9_1, nx9_1), rfl, ⟨op9_1, nx9_1, (by unfold m_call; rw [if_neg c_2])⟩, by rw [ht]; exact hP, va_K.moved hW.alike hK, hD⟩, hS.F ht⟩) hS.2.2 dX3_call_98
theorem m_call_eq (kd : Nat → Int32) (vl : Nat → Int64) (lo : Nat → Int64) (hi : Nat → Int64) (nd : Int32) (so : Nat → Int32) (fr : Nat → Int32) (tg : Nat → Int32) (gn : Nat → Int32) (nr : Int32) (kp : Nat → Int64) (ah : Nat → Int64) (kx : Nat → Int32) (st : Int32) (mo : Int32) (ma : Int32) (fa : Int32) (op : Nat → Int32) (nx : Nat → Int32) (p0 : Int32) (p1 : Int64) (op9 : Nat → Int32) (nx9 : Nat → Int32) : m_call kd vl lo hi nd so fr tg gn nr kp ah kx st mo ma fa op nx p0 p1 op9 nx9 = ((t_gets kd lo hi so fr tg nr.toNatClampNeg 25 (vl, (clr gn 24), (0 : Int32)) p0 p1).2.2, kd, (t_gets kd lo hi so fr tg nr.toNatClampNeg 25 (vl, (clr gn 24), (0 : Int32)) p0 p1).1, lo, hi, nd, so, fr, tg, (t_gets kd lo hi so fr tg nr.toNatClampNeg 25 (vl, (clr gn 24), (0 : Int32)) p0 p1).2.1, nr, (if (t_gets kd lo hi so fr tg nr.toNatClampNeg 25 (vl, (clr gn 24), (0 : Int32)) p0 p1).2.2 ≤ 0 then kp else (if st = 6 then pst (cpx vl ah 16) (dnL kp 80) (st - 1) 16 else pst (cpx vl ah 16) kp st 16)), (cpx vl ah 16), (if (t_gets kd lo hi so fr tg nr.toNatClampNeg 25 (vl, (clr gn 24), (0 : Int32)) p0 p1).2.2 ≤ 0 then kx else (if st = 6 then upd (dnI kx 5) (st - 1).toNatClampNeg nd else upd kx st.toNatClampNeg nd)), (if (t_gets kd lo hi so fr tg nr.toNatClampNeg 25 (vl, (clr gn 24), (0 : Int32)) p0 p1).2.2 ≤ 0 then st else (if st = 6 then st - 1 + 1 else st + 1)), (t_gets kd lo hi so fr tg nr.toNatClampNeg 25 (vl, (clr gn 24), (0 : Int32)) p0 p1).2.2, (ma + (t_gets kd lo hi so fr tg nr.toNatClampNeg 25 (vl, (clr gn 24), (0 : Int32)) p0 p1).2.2), (0 : Int32), op9, nx9) := by
  unfold m_call
  by_cases h : (t_gets kd lo hi so fr tg nr.toNatClampNeg 25 (vl, (clr gn 24), (0 : Int32)) p0 p1).2.2 ≤ 0
  · simp only [if_pos h]
  · simp only [if_neg h]
