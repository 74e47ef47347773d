theorem st_pr {st : Int32} (h : 0 ≤ st ∧ st ≤ 6) (h0 : ¬ st = 0) : vp_in (st - 1) 6 := by
  obtain ⟨k, hk, rfl⟩ := nI_of2 (M := 6) (n := 6) (by decide) (Int32.not_lt.mpr h.1) h.2
  cases k with
  | zero => exact absurd nI_0 h0
  | succ k =>
    rw [nI_pred]
    exact vp_in_nI (by omega) (by decide)
def b_back (kp : Nat → Int64) (x : Int32) : Nat → Nat → (Nat → Int64) → Int32 → Int32 × (Nat → Int64)
  | 0, _, vl, o => (o, vl)
  | n + 1, i, vl, o => b_back kp x n (i + 1) (vp_updL vl (nI i).toNatClampNeg (kp (16 * x + nI i).toNatClampNeg)) (if kp (16 * x + nI i).toNatClampNeg = vl (nI i).toNatClampNeg then o + 0 else o + 1)
set_option maxHeartbeats 4000000 in
set_option maxRecDepth 100000 in
theorem mb_loop {p : Program} {l : Launch} {e : Env} {R : Room} {s : State} {m : MethodId} {args : Array Value} {below : List Frame} {meth : Method} {c : Code} {Q : State → Prop} {A : Nat → Prop} {dC : Nat → ClassId} {dI : Nat → Nat → Nat} {cI cJ cZ : ClassId} {b : Nat → Nat} (kd : Nat → Int32) (lo : Nat → Int64) (hi : Nat → Int64) (nd : Int32) (so : Nat → Int32) (fr : Nat → Int32) (tg : Nat → Int32) (gn : Nat → Int32) (nr : Int32) (kp : Nat → Int64) (ah : Nat → Int64) (kx : Nat → Int32) (st : Int32) (mo : Int32) (ma : Int32) (fa : Int32) (op : Nat → Int32) (nx : Nat → Int32) (N : Nat) (RES : Int32 × (Nat → Int64)) (C0 : CallFix p m c cX3_back 5 s args wsX3_back RX3) (hK : va_K (dC, dI) vwCl (tA cI cJ cZ) s) (hst : vp_in st 6) (hN : kx st.toNatClampNeg = nI N) (hN16 : N ≤ 16) (hend : ∀ (vl : Nat → Int64) (o : Int32) (H : Heap) (locs : List Loc) (ls : Array Slot), RES = (o, vl) → va_P (dC, dI) vwCl (wM cI cJ cZ b kd vl lo hi nd so fr tg gn nr kp ah kx st mo ma fa op nx) H → va_D A (wM cI cJ cZ b kd vl lo hi nd so fr tg gn nr kp ah kx st mo ma fa op nx) → va_S A s.heap H locs → lv_has ls 5 [(1, .int o), (0, .ref (b 0))] → W p l e R s m args below meth c H locs 0 0 Q (F0 m 93 ls [])) :
    ∀ (n i : Nat) (x4 : Int32) (vl : Nat → Int64) (o : Int32) (H : Heap) (locs : List Loc) (ls : Array Slot), i + n = N → x4 = nI i → RES = b_back kp st n i vl o → va_P (dC, dI) vwCl (wM cI cJ cZ b kd vl lo hi nd so fr tg gn nr kp ah kx st mo ma fa op nx) H → va_D A (wM cI cJ cZ b kd vl lo hi nd so fr tg gn nr kp ah kx st mo ma fa op nx) → va_S A s.heap H locs → lv_has ls 5 [(2, .int x4), (1, .int o), (0, .ref (b 0))] → W p l e R s m args below meth c H locs 0 0 Q (F0 m 33 ls []) := by
  obtain ⟨hx, hb, hml, hown, hts⟩ := C0
  have h_inX3 : ∀ w ∈ wsX30, w ∈ wsX3_back := fun _ h => List.mem_cons_of_mem _ (List.mem_append_right _ h)
  have k_0 := hts (.fieldLink RX3 42 "DetentCabinetModel" "keptDials" "[I") (by decide +kernel)
  have k_1 := hts (.fieldLink RX3 143 "DetentCabinetModel" "steps" "I") (by decide +kernel)
  have k_2 := hts (.fieldLink RX3 36 "DetentCabinetModel" "kept" "[J") (by decide +kernel)
  have k_3 := hts (.fieldLink RX3 13 "DetentCabinetModel" "value" "[J") (by decide +kernel)
  intro n
  induction n with
  | zero =>
    intro i x4 vl o H locs ls hin ex hres hP hD hS hl
    subst ex
    refine lv_iload_n hx hb dX3_back_33 rfl (lv_at hl 0 rfl) ?_
    refine lv_aload_n hx hb dX3_back_34 rfl (lv_at hl 2 rfl) ?_
    refine va_get (D := (dC, dI)) (ci := 2) (v := .ref (b 11)) (C := RX3) (T := TX3) (N := 19) hx hb hts h_inX3 hown hK hP 0 rfl rfl 12 (by decide) k_0 (fun _ h9 => h9) rfl dX3_back_35 ?_
    refine lv_aload_n hx hb dX3_back_38 rfl (lv_at hl 2 rfl) ?_
    refine va_get (D := (dC, dI)) (ci := 2) (v := .int st) (C := RX3) (T := TX3) (N := 19) hx hb hts h_inX3 hown hK hP 0 rfl rfl 13 (by decide) k_1 (fun _ h9 => h9) rfl dX3_back_39 ?_
    refine va_iald hx hb hK hP 11 0 rfl rfl hst dX3_back_42 ?_
    refine lv_icmp_ge (tgt := 93) hx hb dX3_back_43 (by decide) (fun c_1 => ?_) (fun c_1 => ?_)
    · skip
      exact hend vl o H locs ls hres hP hD hS (lv_sub hl [1, 2] rfl)
    · skip
      exact absurd (by rw [hN]; exact nI_le (by omega) (by omega)) c_1
  | succ n ih =>
    intro i x4 vl o H locs ls hin ex hres hP hD hS hl
    subst ex
    refine lv_iload_n hx hb dX3_back_33 rfl (lv_at hl 0 rfl) ?_
    refine lv_aload_n hx hb dX3_back_34 rfl (lv_at hl 2 rfl) ?_
    refine va_get (D := (dC, dI)) (ci := 2) (v := .ref (b 11)) (C := RX3) (T := TX3) (N := 19) hx hb hts h_inX3 hown hK hP 0 rfl rfl 12 (by decide) k_0 (fun _ h9 => h9) rfl dX3_back_35 ?_
    refine lv_aload_n hx hb dX3_back_38 rfl (lv_at hl 2 rfl) ?_
    refine va_get (D := (dC, dI)) (ci := 2) (v := .int st) (C := RX3) (T := TX3) (N := 19) hx hb hts h_inX3 hown hK hP 0 rfl rfl 13 (by decide) k_1 (fun _ h9 => h9) rfl dX3_back_39 ?_
    refine va_iald hx hb hK hP 11 0 rfl rfl hst dX3_back_42 ?_
    refine lv_icmp_ge (tgt := 93) hx hb dX3_back_43 (by decide) (fun c_1 => ?_) (fun c_1 => ?_)
    · skip
      exact absurd (by rw [hN] at c_1; exact c_1) (nI_ge (by omega) (by omega))
    · skip
      refine lv_aload_n hx hb dX3_back_46 rfl (lv_at hl 2 rfl) ?_
      refine va_get (D := (dC, dI)) (ci := 2) (v := .ref (b 9)) (C := RX3) (T := TX3) (N := 19) hx hb hts h_inX3 hown hK hP 0 rfl rfl 10 (by decide) k_2 (fun _ h9 => h9) rfl dX3_back_47 ?_
      refine lv_bipush (v := 16) hx hb dX3_back_50 (by decide) ?_
      refine lv_aload_n hx hb dX3_back_52 rfl (lv_at hl 2 rfl) ?_
      refine va_get (D := (dC, dI)) (ci := 2) (v := .int st) (C := RX3) (T := TX3) (N := 19) hx hb hts h_inX3 hown hK hP 0 rfl rfl 13 (by decide) k_1 (fun _ h9 => h9) rfl dX3_back_53 ?_
      refine lv_imul hx hb dX3_back_56 ?_
      refine lv_iload_n hx hb dX3_back_57 rfl (lv_at hl 0 rfl) ?_
      refine lv_iadd hx hb dX3_back_58 ?_
      refine va_lald hx hb hK hP 9 1 rfl rfl (kp_in hst (by omega)) dX3_back_59 ?_
      refine lv_lstore_n (lv' := [(3, .long (kp (((16 : Int32) * st) + (nI i)).toNatClampNeg)), (2, .int (nI i)), (1, .int o), (0, .ref (b 0))]) hx hb dX3_back_60 rfl hl (by decide) rfl (fun ls hl => ?_)
      refine lv_iload_n hx hb dX3_back_61 rfl (lv_at hl 2 rfl) ?_
      refine lv_lload_n hx hb dX3_back_62 rfl (lv_at hl 0 rfl) ?_
      refine lv_aload_n hx hb dX3_back_63 rfl (lv_at hl 3 rfl) ?_
      refine va_get (D := (dC, dI)) (ci := 2) (v := .ref (b 2)) (C := RX3) (T := TX3) (N := 19) hx hb hts h_inX3 hown hK hP 0 rfl rfl 1 (by decide) k_3 (fun _ h9 => h9) rfl dX3_back_64 ?_
      refine lv_iload_n hx hb dX3_back_67 rfl (lv_at hl 1 rfl) ?_
      refine va_lald hx hb hK hP 2 1 rfl rfl (vp_in_nI (by omega) (by decide)) dX3_back_68 ?_
      refine W.lcmp hx hb dX3_back_69 ?_
      refine lv_if_eq (tgt := 77) hx hb dX3_back_70 (by decide) (fun c_2 => ?_) (fun c_2 => ?_)
      · skip
        have c_2 : (kp (((16 : Int32) * st) + (nI i)).toNatClampNeg) = (vl (nI i).toNatClampNeg) := (lg_cmp_eq _ _).mp c_2
        refine lv_iconst (v := 0) hx hb dX3_back_77 (by decide) ?_
        refine lv_iadd hx hb dX3_back_78 ?_
        refine lv_istore_n (lv' := [(1, .int (o + (0 : Int32))), (3, .long (kp (((16 : Int32) * st) + (nI i)).toNatClampNeg)), (2, .int (nI i)), (0, .ref (b 0))]) hx hb dX3_back_79 rfl hl (by decide) rfl (fun ls hl => ?_)
        refine lv_aload_n hx hb dX3_back_80 rfl (lv_at hl 3 rfl) ?_
        refine va_get (D := (dC, dI)) (ci := 2) (v := .ref (b 2)) (C := RX3) (T := TX3) (N := 19) hx hb hts h_inX3 hown hK hP 0 rfl rfl 1 (by decide) k_3 (fun _ h9 => h9) rfl dX3_back_81 ?_
        refine lv_iload_n hx hb dX3_back_84 rfl (lv_at hl 2 rfl) ?_
        refine lv_lload_n hx hb dX3_back_85 rfl (lv_at hl 1 rfl) ?_
        refine va_last hx hb hK hP hD hS 2 1 rfl rfl (vp_in_nI (by omega) (by decide)) dX3_back_86 (fun H locs hP hD hS => ?_)
        have hP : va_P (dC, dI) vwCl (wM cI cJ cZ b kd (vp_updL vl (nI i).toNatClampNeg (kp (((16 : Int32) * st) + (nI i)).toNatClampNeg)) lo hi nd so fr tg gn nr kp ah kx st mo ma fa op nx) H := hP
        have hD : va_D A (wM cI cJ cZ b kd (vp_updL vl (nI i).toNatClampNeg (kp (((16 : Int32) * st) + (nI i)).toNatClampNeg)) lo hi nd so fr tg gn nr kp ah kx st mo ma fa op nx) := hD
        refine lv_iinc (v := ((nI i) + 1)) (lv' := [(2, .int ((nI i) + 1)), (1, .int (o + (0 : Int32))), (3, .long (kp (((16 : Int32) * st) + (nI i)).toNatClampNeg)), (0, .ref (b 0))]) hx hb dX3_back_87 hl (k := 2) rfl rfl (by decide) rfl (fun ls hl => ?_)
        refine lv_goto (tgt := 33) hx hb dX3_back_90 (by decide) ?_
        exact ih (i + 1) _ (vp_updL vl (nI i).toNatClampNeg (kp (((16 : Int32) * st) + (nI i)).toNatClampNeg)) (o + (0 : Int32)) H locs ls (by omega) (nI_1 i) (hres.trans (congrArg (b_back kp st n (i + 1) (vp_updL vl (nI i).toNatClampNeg (kp (((16 : Int32) * st) + (nI i)).toNatClampNeg))) (if_pos c_2))) hP hD hS (lv_sub hl [0, 1, 3] rfl)
      · skip
        have c_2 : ¬ ((kp (((16 : Int32) * st) + (nI i)).toNatClampNeg) = (vl (nI i).toNatClampNeg)) := fun h => c_2 ((lg_cmp_eq _ _).mpr h)
        refine lv_iconst (v := 1) hx hb dX3_back_73 (by decide) ?_
        refine lv_goto (tgt := 78) hx hb dX3_back_74 (by decide) ?_
        refine lv_iadd hx hb dX3_back_78 ?_
        refine lv_istore_n (lv' := [(1, .int (o + (1 : Int32))), (3, .long (kp (((16 : Int32) * st) + (nI i)).toNatClampNeg)), (2, .int (nI i)), (0, .ref (b 0))]) hx hb dX3_back_79 rfl hl (by decide) rfl (fun ls hl => ?_)
        refine lv_aload_n hx hb dX3_back_80 rfl (lv_at hl 3 rfl) ?_
        refine va_get (D := (dC, dI)) (ci := 2) (v := .ref (b 2)) (C := RX3) (T := TX3) (N := 19) hx hb hts h_inX3 hown hK hP 0 rfl rfl 1 (by decide) k_3 (fun _ h9 => h9) rfl dX3_back_81 ?_
        refine lv_iload_n hx hb dX3_back_84 rfl (lv_at hl 2 rfl) ?_
        refine lv_lload_n hx hb dX3_back_85 rfl (lv_at hl 1 rfl) ?_
        refine va_last hx hb hK hP hD hS 2 1 rfl rfl (vp_in_nI (by omega) (by decide)) dX3_back_86 (fun H locs hP hD hS => ?_)
        have hP : va_P (dC, dI) vwCl (wM cI cJ cZ b kd (vp_updL vl (nI i).toNatClampNeg (kp (((16 : Int32) * st) + (nI i)).toNatClampNeg)) lo hi nd so fr tg gn nr kp ah kx st mo ma fa op nx) H := hP
        have hD : va_D A (wM cI cJ cZ b kd (vp_updL vl (nI i).toNatClampNeg (kp (((16 : Int32) * st) + (nI i)).toNatClampNeg)) lo hi nd so fr tg gn nr kp ah kx st mo ma fa op nx) := hD
        refine lv_iinc (v := ((nI i) + 1)) (lv' := [(2, .int ((nI i) + 1)), (1, .int (o + (1 : Int32))), (3, .long (kp (((16 : Int32) * st) + (nI i)).toNatClampNeg)), (0, .ref (b 0))]) hx hb dX3_back_87 hl (k := 2) rfl rfl (by decide) rfl (fun ls hl => ?_)
        refine lv_goto (tgt := 33) hx hb dX3_back_90 (by decide) ?_
        exact ih (i + 1) _ (vp_updL vl (nI i).toNatClampNeg (kp (((16 : Int32) * st) + (nI i)).toNatClampNeg)) (o + (1 : Int32)) H locs ls (by omega) (nI_1 i) (hres.trans (congrArg (b_back kp st n (i + 1) (vp_updL vl (nI i).toNatClampNeg (kp (((16 : Int32) * st) + (nI i)).toNatClampNeg))) (if_neg c_2))) hP hD hS (lv_sub hl [0, 1, 3] rfl)
def m_back (kd : Nat → Int32) (vl : Nat → Int64) (lo : Nat → Int64) (hi : Nat → Int64) (nd : Int32) (so : Nat → Int32) (fr : Nat → Int32) (tg : Nat → Int32) (gn : Nat → Int32) (nr : Int32) (kp : Nat → Int64) (ah : Nat → Int64) (kx : Nat → Int32) (st : Int32) (mo : Int32) (ma : Int32) (fa : Int32) (op : Nat → Int32) (nx : Nat → Int32) : Int32 × MS :=
  if st = 0 then ((-1 : Int32), kd, vl, lo, hi, nd, so, fr, tg, gn, nr, kp, ah, kx, st, mo, ma, (7 : Int32), op, nx)
  else ((b_back kp (st - (1 : Int32)) (kx (st - (1 : Int32)).toNatClampNeg).toNatClampNeg 0 vl 0).1, kd, (b_back kp (st - (1 : Int32)) (kx (st - (1 : Int32)).toNatClampNeg).toNatClampNeg 0 vl 0).2, lo, hi, nd, so, fr, tg, gn, nr, kp, ah, kx, (st - (1 : Int32)), mo, ma, (0 : Int32), op, nx)
set_option maxHeartbeats 4000000 in
set_option maxRecDepth 100000 in
theorem c_X3_back (l : Launch) (dC : Nat → ClassId) (dI : Nat → Nat → Nat) (cI cJ cZ : ClassId) (b : Nat → Nat) (kd : Nat → Int32) (vl : Nat → Int64) (lo : Nat → Int64) (hi : Nat → Int64) (nd : Int32) (so : Nat → Int32) (fr : Nat → Int32) (tg : Nat → Int32) (gn : Nat → Int32) (nr : Int32) (kp : Nat → Int64) (ah : Nat → Int64) (kx : Nat → Int32) (st : Int32) (mo : Int32) (ma : Int32) (fa : Int32) (op : Nat → Int32) (nx : Nat → Int32) (hst : 0 ≤ st ∧ st ≤ 6) (hkx : ∀ j, 0 ≤ kx j ∧ kx j ≤ 16) (sz : Nat) : Met l yX3_back wsX3_back ({ frames := 1, cells := 0, slots := 0, locals := 21 }) (va_Pc [.ref (b 0)] (fun U => U.heap.size = sz ∧ va_P (dC, dI) vwCl (wM cI cJ cZ b kd vl lo hi nd so fr tg gn nr kp ah kx st mo ma fa op nx) U.heap ∧ va_K (dC, dI) vwCl (tA cI cJ cZ) U ∧ va_D (fun _ => True) (wM cI cJ cZ b kd vl lo hi nd so fr tg gn nr kp ah kx st mo ma fa op nx))) (va_Qi (fun (r : Int32) (u : MS) => (r, u) = m_back kd vl lo hi nd so fr tg gn nr kp ah kx st mo ma fa op nx) (at_M dC dI cI cJ cZ (va_A (wM cI cJ cZ b kd vl lo hi nd so fr tg gn nr kp ah kx st mo ma fa op nx) sz) b) (va_A (wM cI cJ cZ b kd vl lo hi nd so fr tg gn nr kp ah kx st mo ma fa op nx) sz)) 0 0 (va_A (wM cI cJ cZ b kd vl lo hi nd so fr tg gn nr kp ah kx st mo ma fa op nx) sz) := by
  refine Met.ofW (cc := cX3_back) (maxL := 5) (ret := (some .int)) (by decide) rfl ?_
  intro p e s m args below meth c s₁ B hml hv
  obtain ⟨rfl, hsz, hP, hK, hD0⟩ := hv
  subst hsz
  have hD := hD0.self (sz := s.heap.size)
  generalize hAe : va_A (wM cI cJ cZ b kd vl lo hi nd so fr tg gn nr kp ah kx st mo ma fa op nx) s.heap.size = A at hD ⊢
  have hA : ∀ q : Nat, s.heap.size ≤ q → A q := fun q h => by rw [← hAe]; exact Or.inr h
  have hS : va_S A s.heap s.heap [] := va_S.rf
  have hP : va_P (dC, dI) vwCl (wM cI cJ cZ b kd vl lo hi nd so fr tg gn nr kp ah kx st mo ma fa op nx) s.heap := hP
  have hx := B.exec
  have hb := B.bytes
  have hr := B.returns
  have hts := atoms_spec (ws := wsX3_back) B.pre
  have hown : s.vm.findClass RX3 = some m.cls := findClass_of_methodNamed B.named
  have hlocks := B.notSynchronized
  have h_inX3 : ∀ w ∈ wsX30, w ∈ wsX3_back := fun _ h => List.mem_cons_of_mem _ (List.mem_append_right _ h)
  have k_0 := hts (.fieldLink RX3 143 "DetentCabinetModel" "steps" "I") (by decide +kernel)
  have k_1 := hts (.fieldLink RX3 55 "DetentCabinetModel" "fault" "I") (by decide +kernel)
  have hl := lv_entry ([.ref (b 0)]) (n := 5) (Nat.le_of_ble_eq_true rfl)
  rw [lg_entry_eq]
  generalize (lg_sl ([.ref (b 0)]) ++ List.replicate (5 - (lg_sl ([.ref (b 0)])).length) Slot.unset).toArray = ls at hl ⊢
  have hl : lv_has ls 5 [(0, .ref (b 0))] := hl
  refine lv_aload_n hx hb dX3_back_0 rfl (lv_at hl 0 rfl) ?_
  refine va_get (D := (dC, dI)) (ci := 2) (v := .int st) (C := RX3) (T := TX3) (N := 19) hx hb hts h_inX3 hown hK hP 0 rfl rfl 13 (by decide) k_0 (fun _ h9 => h9) rfl dX3_back_1 ?_
  refine lv_if_ne (tgt := 14) hx hb dX3_back_4 (by decide) (fun c_1 => ?_) (fun c_1 => ?_)
  · skip
    refine lv_aload_n hx hb dX3_back_14 rfl (lv_at hl 0 rfl) ?_
    refine lv_iconst (v := 0) hx hb dX3_back_15 (by decide) ?_
    refine va_put (D := (dC, dI)) (ci := 2) (v := .int (0 : Int32)) (ty := .int) (C := RX3) (T := TX3) (N := 19) hx hb hts h_inX3 tyX3 tyX3_ok nmX3 hown hK hP hD hS 0 rfl rfl 16 (by decide) k_1 (fun _ h9 => h9) rfl (by decide +kernel) rfl rfl (Nat.le_of_ble_eq_true rfl) dX3_back_16 (fun H locs hP hD hS => ?_)
    have hP : va_P (dC, dI) vwCl (wM cI cJ cZ b kd vl lo hi nd so fr tg gn nr kp ah kx st mo ma (0 : Int32) op nx) H := hP
    have hD : va_D A (wM cI cJ cZ b kd vl lo hi nd so fr tg gn nr kp ah kx st mo ma (0 : Int32) op nx) := hD
    refine lv_aload_n hx hb dX3_back_19 rfl (lv_at hl 0 rfl) ?_
    refine lv_dup hx hb dX3_back_20 rfl ?_
    refine va_get (D := (dC, dI)) (ci := 2) (v := .int st) (C := RX3) (T := TX3) (N := 19) hx hb hts h_inX3 hown hK hP 0 rfl rfl 13 (by decide) k_0 (fun _ h9 => h9) rfl dX3_back_21 ?_
    refine lv_iconst (v := 1) hx hb dX3_back_24 (by decide) ?_
    refine lv_isub hx hb dX3_back_25 ?_
    refine va_put (D := (dC, dI)) (ci := 2) (v := .int (st - (1 : Int32))) (ty := .int) (C := RX3) (T := TX3) (N := 19) hx hb hts h_inX3 tyX3 tyX3_ok nmX3 hown hK hP hD hS 0 rfl rfl 13 (by decide) k_0 (fun _ h9 => h9) rfl (by decide +kernel) rfl rfl (Nat.le_of_ble_eq_true rfl) dX3_back_26 (fun H locs hP hD hS => ?_)
    have hP : va_P (dC, dI) vwCl (wM cI cJ cZ b kd vl lo hi nd so fr tg gn nr kp ah kx (st - (1 : Int32)) mo ma (0 : Int32) op nx) H := hP
    have hD : va_D A (wM cI cJ cZ b kd vl lo hi nd so fr tg gn nr kp ah kx (st - (1 : Int32)) mo ma (0 : Int32) op nx) := hD
    refine lv_iconst (v := 0) hx hb dX3_back_29 (by decide) ?_
    refine lv_istore_n (lv' := [(1, .int (0 : Int32)), (0, .ref (b 0))]) hx hb dX3_back_30 rfl hl (by decide) rfl (fun ls hl => ?_)
    refine lv_iconst (v := 0) hx hb dX3_back_31 (by decide) ?_
    refine lv_istore_n (lv' := [(2, .int (0 : Int32)), (1, .int (0 : Int32)), (0, .ref (b 0))]) hx hb dX3_back_32 rfl hl (by decide) rfl (fun ls hl => ?_)
    refine mb_loop kd lo hi nd so fr tg gn nr kp ah kx (st - (1 : Int32)) mo ma (0 : Int32) op nx (kx (st - (1 : Int32)).toNatClampNeg).toNatClampNeg (b_back kp (st - (1 : Int32)) (kx (st - (1 : Int32)).toNatClampNeg).toNatClampNeg 0 vl 0) ⟨hx, hb, hml, hown, hts⟩ hK (st_pr hst c_1) (n16_nat (hkx _)).1 (n16_nat (hkx _)).2 (fun vl_9 o_9 H locs ls hres hP hD hS hl => ?_) (kx (st - (1 : Int32)).toNatClampNeg).toNatClampNeg 0 _ vl _ H locs ls (by omega) nI_0.symm rfl hP hD hS (lv_sub hl [0, 1, 2] rfl)
    refine lv_iload_n hx hb dX3_back_93 rfl (lv_at hl 0 rfl) ?_
    exact W.iret (v := o_9) hx hb hr (fun t ht hW => ⟨⟨o_9, (kd, vl_9, lo, hi, nd, so, fr, tg, gn, nr, kp, ah, kx, (st - (1 : Int32)), mo, ma, (0 : Int32), op, nx), rfl, (by unfold m_back; rw [if_neg c_1, hres]), by rw [ht]; exact hP, va_K.moved hW.alike hK, hD⟩, hS.F ht⟩) hS.2.2 dX3_back_94
  · skip
    refine lv_aload_n hx hb dX3_back_7 rfl (lv_at hl 0 rfl) ?_
    refine lv_bipush (v := 7) hx hb dX3_back_8 (by decide) ?_
    have hFc := va_free (wc := (wM cI cJ cZ b kd vl lo hi nd so fr tg gn nr kp ah kx st mo ma fa op nx)) hD hS hA [0, 1, 2, 3, 4, 5, 6, 7, 8, 9, 10, 11, 12, 13] rfl
    refine va_calli (va_runV (As := [.int (7 : Int32)]) (rest := []) ⟨hx, hb, hml, hown, hts⟩ (c_X3_refused l dC dI cI cJ cZ b kd vl lo hi nd so fr tg gn nr kp ah kx st mo ma fa op nx (7 : Int32)  s.heap.size) (cwV 1 hts gX3_back_X3_refused rfl rfl rfl (by decide +kernel) ⟨Nat.le_of_ble_eq_true rfl, Nat.le_of_ble_eq_true rfl⟩) (fb_m hK hP hD (va_recv hK hP (ci := 2) (q0 := 0) rfl rfl)) rfl rfl hl.1 rfl (lv_room (Nat.le_of_ble_eq_true rfl)) dX3_back_10 ⟨Nat.zero_le _, Nat.zero_le _⟩) hS (fun q _ h => hFc q h) hFc (fun r_2 u t H1 locs ht hvm hw_2 hB hz1 hk1 hS => ?_)
    obtain ⟨kd_2, vl_2, lo_2, hi_2, nd_2, so_2, fr_2, tg_2, gn_2, nr_2, kp_2, ah_2, kx_2, st_2, mo_2, ma_2, fa_2, op_2, nx_2⟩ := u
    rw [m_refused_eq] at hw_2
    have hw_2 := hw_2.symm
    simp only [Prod.mk.injEq] at hw_2
    obtain ⟨rfl, rfl, rfl, rfl, rfl, rfl, rfl, rfl, rfl, rfl, rfl, rfl, rfl, rfl, rfl, rfl, rfl, rfl, rfl, rfl⟩ := hw_2
    obtain ⟨hP1, hK1, hD1⟩ := hB
    rw [ht] at hP1
    obtain ⟨hP, hD⟩ := va_join (wr := []) (w1 := (wM cI cJ cZ b kd vl lo hi nd so fr tg gn nr kp ah kx st mo ma (7 : Int32) op nx)) hP hD [0, 1, 2, 3, 4, 5, 6, 7, 8, 9, 10, 11, 12, 13] [] rfl rfl (by decide) (by decide) hk1 hFc hP1 hD1
    generalize H1 = H at hP hS ⊢
    have hP : va_P (dC, dI) vwCl (wM cI cJ cZ b kd vl lo hi nd so fr tg gn nr kp ah kx st mo ma (7 : Int32) op nx) H := hP
    have hD : va_D A (wM cI cJ cZ b kd vl lo hi nd so fr tg gn nr kp ah kx st mo ma (7 : Int32) op nx) := hD
    exact W.iret (v := (-1 : Int32)) hx hb hr (fun t ht hW => ⟨⟨(-1 : Int32), (kd, vl, lo, hi, nd, so, fr, tg, gn, nr, kp, ah, kx, st, mo, ma, (7 : Int32), op, nx), rfl, (by unfold m_back; rw [if_pos c_1]), by rw [ht]; exact hP, va_K.moved hW.alike hK, hD⟩, hS.F ht⟩) hS.2.2 dX3_back_13
