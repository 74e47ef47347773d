/-- the first i values come of f -/
def cpx (f g : Nat → Int64) (n : Nat) : Nat → Int64 := fun j => if j < n then f j else g j
theorem cpx_0 (f g : Nat → Int64) : cpx f g 0 = g := by
  funext j
  unfold cpx
  rw [if_neg (Nat.not_lt_zero j)]
theorem cpx_s (f g : Nat → Int64) {i : Nat} (h : i < 2 ^ 31) : vp_updL (cpx f g i) (nI i).toNatClampNeg (f (nI i).toNatClampNeg) = cpx f g (i + 1) := by
  rw [nI_clamp h]
  funext j
  unfold vp_updL cpx
  by_cases h1 : j = i
  · rw [if_pos h1, if_pos (by omega), h1]
  · rw [if_neg h1]
    by_cases h2 : j < i
    · rw [if_pos h2, if_pos (by omega)]
    · rw [if_neg h2, if_neg (by omega)]
/-- the first n places are moved down by w -/
def dnL (f : Nat → Int64) (n : Nat) : Nat → Int64 := fun j => if j < n then f (j + 16) else f j
theorem dnL_0 (f : Nat → Int64) : dnL f 0 = f := by
  funext j
  unfold dnL
  rw [if_neg (Nat.not_lt_zero j)]
theorem dnL_s (f : Nat → Int64) {i : Nat} (h : i < 1000) : vp_updL (dnL f i) (nI i).toNatClampNeg (dnL f i (nI i + 16).toNatClampNeg) = dnL f (i + 1) := by
  rw [show (16 : Int32) = nI 16 from rfl, nI_add, nI_clamp (by omega), nI_clamp (by omega)]
  funext j
  unfold vp_updL dnL
  by_cases h1 : j = i
  · rw [if_pos h1, if_neg (by omega), if_pos (by omega), h1]
  · rw [if_neg h1]
    by_cases h2 : j < i
    · rw [if_pos h2, if_pos (by omega)]
    · rw [if_neg h2, if_neg (by omega)]
def dnI (f : Nat → Int32) (n : Nat) : Nat → Int32 := fun j => if j < n then f (j + 1) else f j
theorem dnI_0 (f : Nat → Int32) : dnI f 0 = f := by
  funext j
  unfold dnI
  rw [if_neg (Nat.not_lt_zero j)]
theorem dnI_s (f : Nat → Int32) {i : Nat} (h : i < 1000) : upd (dnI f i) (nI i).toNatClampNeg (dnI f i (nI i + 1).toNatClampNeg) = dnI f (i + 1) := by
  rw [nI_1, nI_clamp (by omega), nI_clamp (by omega)]
  funext j
  unfold upd dnI
  by_cases h1 : j = i
  · rw [if_pos h1, if_neg (by omega), if_pos (by omega), h1]
  · rw [if_neg h1]
    by_cases h2 : j < i
    · rw [if_pos h2, if_pos (by omega)]
    · rw [if_neg h2, if_neg (by omega)]
theorem kp_in {x : Int32} {i : Nat} (hx : vp_in x 6) (hi : i < 16) : vp_in (16 * x + nI i) 96 := by
  obtain ⟨j, hj, rfl⟩ := vp_in_of hx (by decide)
  rw [show (16 : Int32) = nI 16 from rfl, pk_mul, nI_add]
  exact vp_in_nI (by omega) (by decide)
def pst (f g : Nat → Int64) (x : Int32) (n : Nat) : Nat → Int64 := va_cpy f g 0 (16 * x).toNatClampNeg n
theorem pst_0 (f g : Nat → Int64) (x : Int32) : pst f g x 0 = g := by
  funext j
  unfold pst va_cpy
  rw [if_neg (by omega)]
theorem pst_s (f g : Nat → Int64) {x : Int32} {i : Nat} (hx : vp_in x 6) (h : i < 1000) : vp_updL (pst f g x i) (16 * x + nI i).toNatClampNeg (f (nI i).toNatClampNeg) = pst f g x (i + 1) := by
  obtain ⟨j, hj, rfl⟩ := vp_in_of hx (by decide)
  unfold pst
  rw [show (16 : Int32) = nI 16 from rfl, pk_mul, nI_add, nI_clamp (by omega), nI_clamp (by omega), nI_clamp (by omega)]
  funext k
  unfold vp_updL va_cpy
  by_cases h1 : k = 16 * j + i
  · rw [if_pos h1, if_pos (by omega)]
    congr 1
    omega
  · rw [if_neg h1]
    by_cases h2 : 16 * j ≤ k ∧ k < 16 * j + i
    · rw [if_pos h2, if_pos (by omega)]
    · rw [if_neg h2, if_neg (by omega)]
def m_refused (kd : Nat → Int32) (vl : Nat → Int64) (lo : Nat → Int64) (hi : Nat → Int64) (nd : Int32) (so : Nat → Int32) (fr : Nat → Int32) (tg : Nat → Int32) (gn : Nat → Int32) (nr : Int32) (kp : Nat → Int64) (ah : Nat → Int64) (kx : Nat → Int32) (st : Int32) (mo : Int32) (ma : Int32) (fa : Int32) (op : Nat → Int32) (nx : Nat → Int32) (p0 : Int32) : Int32 × MS :=
  ((-1 : Int32), kd, vl, lo, hi, nd, so, fr, tg, gn, nr, kp, ah, kx, st, mo, ma, p0, op, nx)
set_option maxHeartbeats 4000000 in
set_option maxRecDepth 100000 in
theorem c_X3_refused (l : Launch) (dC : Nat → ClassId) (dI : Nat → Nat → Nat) (cI cJ cZ : ClassId) (b : Nat → Nat) (kd : Nat → Int32) (vl : Nat → Int64) (lo : Nat → Int64) (hi : Nat → Int64) (nd : Int32) (so : Nat → Int32) (fr : Nat → Int32) (tg : Nat → Int32) (gn : Nat → Int32) (nr : Int32) (kp : Nat → Int64) (ah : Nat → Int64) (kx : Nat → Int32) (st : Int32) (mo : Int32) (ma : Int32) (fa : Int32) (op : Nat → Int32) (nx : Nat → Int32) (p0 : Int32) (sz : Nat) : Met l yX3_refused wsX3_refused ({ frames := 0, cells := 0, slots := 0, locals := 0 }) (va_Pc [.ref (b 0), .int p0] (fun U => U.heap.size = sz ∧ va_P (dC, dI) vwCl (wM cI cJ cZ b kd vl lo hi nd so fr tg gn nr kp ah kx st mo ma fa op nx) U.heap ∧ va_K (dC, dI) vwCl (tA cI cJ cZ) U ∧ va_D (fun _ => True) (wM cI cJ cZ b kd vl lo hi nd so fr tg gn nr kp ah kx st mo ma fa op nx))) (va_Qi (fun (r : Int32) (u : MS) => (r, u) = m_refused kd vl lo hi nd so fr tg gn nr kp ah kx st mo ma fa op nx p0) (at_M dC dI cI cJ cZ (va_A (wM cI cJ cZ b kd vl lo hi nd so fr tg gn nr kp ah kx st mo ma fa op nx) sz) b) (va_A (wM cI cJ cZ b kd vl lo hi nd so fr tg gn nr kp ah kx st mo ma fa op nx) sz)) 0 0 (va_A (wM cI cJ cZ b kd vl lo hi nd so fr tg gn nr kp ah kx st mo ma fa op nx) sz) := by
  refine Met.ofW (cc := cX3_refused) (maxL := 2) (ret := (some .int)) (by decide) rfl ?_
  intro p e s m args below meth c s₁ B hml hv
  obtain ⟨rfl, hsz, hP, hK, hD0⟩ := hv
  subst hsz
  have hD := hD0.self (sz := s.heap.size)
  generalize hAe : va_A (wM cI cJ cZ b kd vl lo hi nd so fr tg gn nr kp ah kx st mo ma fa op nx) s.heap.size = A at hD ⊢
  have hA : ∀ q : Nat, s.heap.size ≤ q → A q := fun q h => by rw [← hAe]; exact Or.inr h
  have hS : va_S A s.heap s.heap [] := va_S.rf
  have hP : va_P (dC, dI) vwCl (wM cI cJ cZ b kd vl lo hi nd so fr tg gn nr kp ah kx st mo ma fa op nx) s.heap := hP
  have hx := B.exec
  have hb := B.bytes
  have hr := B.returns
  have hts := atoms_spec (ws := wsX3_refused) B.pre
  have hown : s.vm.findClass RX3 = some m.cls := findClass_of_methodNamed B.named
  have hlocks := B.notSynchronized
  have h_inX3 : ∀ w ∈ wsX30, w ∈ wsX3_refused := fun _ h => List.mem_cons_of_mem _ (List.mem_append_right _ h)
  have k_0 := hts (.fieldLink RX3 55 "DetentCabinetModel" "fault" "I") (by decide +kernel)
  have hl := lv_entry ([.ref (b 0), .int p0]) (n := 2) (Nat.le_of_ble_eq_true rfl)
  rw [lg_entry_eq]
  generalize (lg_sl ([.ref (b 0), .int p0]) ++ List.replicate (2 - (lg_sl ([.ref (b 0), .int p0])).length) Slot.unset).toArray = ls at hl ⊢
  have hl : lv_has ls 2 [(0, .ref (b 0)), (1, .int p0)] := hl
  refine lv_aload_n hx hb dX3_refused_0 rfl (lv_at hl 0 rfl) ?_
  refine lv_iload_n hx hb dX3_refused_1 rfl (lv_at hl 1 rfl) ?_
  refine va_put (D := (dC, dI)) (ci := 2) (v := .int p0) (ty := .int) (C := RX3) (T := TX3) (N := 19) hx hb hts h_inX3 tyX3 tyX3_ok nmX3 hown hK hP hD hS 0 rfl rfl 16 (by decide) k_0 (fun _ h9 => h9) rfl (by decide +kernel) rfl rfl (Nat.le_of_ble_eq_true rfl) dX3_refused_2 (fun H locs hP hD hS => ?_)
  have hP : va_P (dC, dI) vwCl (wM cI cJ cZ b kd vl lo hi nd so fr tg gn nr kp ah kx st mo ma p0 op nx) H := hP
  have hD : va_D A (wM cI cJ cZ b kd vl lo hi nd so fr tg gn nr kp ah kx st mo ma p0 op nx) := hD
  refine lv_iconst (v := (-1)) hx hb dX3_refused_5 (by decide) ?_
  exact W.iret (v := (-1 : Int32)) hx hb hr (fun t ht hW => ⟨⟨(-1 : Int32), (kd, vl, lo, hi, nd, so, fr, tg, gn, nr, kp, ah, kx, st, mo, ma, p0, op, nx), rfl, rfl, by rw [ht]; exact hP, va_K.moved hW.alike hK, hD⟩, hS.F ht⟩) hS.2.2 dX3_refused_6
theorem m_refused_eq (kd : Nat → Int32) (vl : Nat → Int64) (lo : Nat → Int64) (hi : Nat → Int64) (nd : Int32) (so : Nat → Int32) (fr : Nat → Int32) (tg : Nat → Int32) (gn : Nat → Int32) (nr : Int32) (kp : Nat → Int64) (ah : Nat → Int64) (kx : Nat → Int32) (st : Int32) (mo : Int32) (ma : Int32) (fa : Int32) (op : Nat → Int32) (nx : Nat → Int32) (p0 : Int32) : m_refused kd vl lo hi nd so fr tg gn nr kp ah kx st mo ma fa op nx p0 = ((-1 : Int32), kd, vl, lo, hi, nd, so, fr, tg, gn, nr, kp, ah, kx, st, mo, ma, p0, op, nx) := by
  rfl
set_option maxHeartbeats 4000000 in
set_option maxRecDepth 100000 in
theorem mk_a {p : Program} {l : Launch} {e : Env} {R : Room} {s : State} {m : MethodId} {args : Array Value} {below : List Frame} {meth : Method} {c : Code} {Q : State → Prop} {A : Nat → Prop} {dC : Nat → ClassId} {dI : Nat → Nat → Nat} {cI cJ cZ : ClassId} {b : Nat → Nat} (kd : Nat → Int32) (vl : Nat → Int64) (lo : Nat → Int64) (hi : Nat → Int64) (nd : Int32) (so : Nat → Int32) (fr : Nat → Int32) (tg : Nat → Int32) (gn : Nat → Int32) (nr : Int32) (kp : Nat → Int64) (ah : Nat → Int64) (kx : Nat → Int32) (st : Int32) (mo : Int32) (ma : Int32) (fa : Int32) (op : Nat → Int32) (nx : Nat → Int32)  (C0 : CallFix p m c cX3_keep 2 s args wsX3_keep RX3) (hK : va_K (dC, dI) vwCl (tA cI cJ cZ) s)  (hend : ∀ (H : Heap) (locs : List Loc) (ls : Array Slot), va_P (dC, dI) vwCl (wM cI cJ cZ b kd vl lo hi nd so fr tg gn nr (dnL kp 80) ah kx st mo ma fa op nx) H → va_D A (wM cI cJ cZ b kd vl lo hi nd so fr tg gn nr (dnL kp 80) ah kx st mo ma fa op nx) → va_S A s.heap H locs → lv_has ls 2 [(0, .ref (b 0))] → W p l e R s m args below meth c H locs 0 0 Q (F0 m 38 ls [])) :
    ∀ (n i : Nat) (x4 : Int32) (H : Heap) (locs : List Loc) (ls : Array Slot), i + n = 80 → x4 = nI i → va_P (dC, dI) vwCl (wM cI cJ cZ b kd vl lo hi nd so fr tg gn nr (dnL kp i) ah kx st mo ma fa op nx) H → va_D A (wM cI cJ cZ b kd vl lo hi nd so fr tg gn nr (dnL kp i) ah kx st mo ma fa op nx) → va_S A s.heap H locs → lv_has ls 2 [(1, .int x4), (0, .ref (b 0))] → W p l e R s m args below meth c H locs 0 0 Q (F0 m 11 ls []) := by
  obtain ⟨hx, hb, hml, hown, hts⟩ := C0
  have h_inX3 : ∀ w ∈ wsX30, w ∈ wsX3_keep := fun _ h => List.mem_cons_of_mem _ (List.mem_append_right _ h)
  have k_0 := hts (.fieldLink RX3 36 "DetentCabinetModel" "kept" "[J") (by decide +kernel)
  intro n
  induction n with
  | zero =>
    intro i x4 H locs ls hin ex hP hD hS hl
    subst ex
    have hin9 : i = 80 := hin
    refine lv_iload_n hx hb dX3_keep_11 rfl (lv_at hl 0 rfl) ?_
    refine lv_bipush (v := 80) hx hb dX3_keep_12 (by decide) ?_
    refine lv_icmp_ge (tgt := 38) hx hb dX3_keep_14 (by decide) (fun c_1 => ?_) (fun c_1 => ?_)
    · skip
      exact hend H locs ls (by rw [← hin9]; exact hP) (by rw [← hin9]; exact hD) hS (lv_sub hl [1] rfl)
    · skip
      exact absurd (show nI 80 ≤ nI i from nI_le (by omega) (by omega)) c_1
  | succ n ih =>
    intro i x4 H locs ls hin ex hP hD hS hl
    subst ex
    refine lv_iload_n hx hb dX3_keep_11 rfl (lv_at hl 0 rfl) ?_
    refine lv_bipush (v := 80) hx hb dX3_keep_12 (by decide) ?_
    refine lv_icmp_ge (tgt := 38) hx hb dX3_keep_14 (by decide) (fun c_1 => ?_) (fun c_1 => ?_)
    · skip
      exact absurd (show nI 80 ≤ nI i from c_1) (nI_ge (by omega) (by decide))
    · skip
      refine lv_aload_n hx hb dX3_keep_17 rfl (lv_at hl 1 rfl) ?_
      refine va_get (D := (dC, dI)) (ci := 2) (v := .ref (b 9)) (C := RX3) (T := TX3) (N := 19) hx hb hts h_inX3 hown hK hP 0 rfl rfl 10 (by decide) k_0 (fun _ h9 => h9) rfl dX3_keep_18 ?_
      refine lv_iload_n hx hb dX3_keep_21 rfl (lv_at hl 0 rfl) ?_
      refine lv_aload_n hx hb dX3_keep_22 rfl (lv_at hl 1 rfl) ?_
      refine va_get (D := (dC, dI)) (ci := 2) (v := .ref (b 9)) (C := RX3) (T := TX3) (N := 19) hx hb hts h_inX3 hown hK hP 0 rfl rfl 10 (by decide) k_0 (fun _ h9 => h9) rfl dX3_keep_23 ?_
      refine lv_iload_n hx hb dX3_keep_26 rfl (lv_at hl 0 rfl) ?_
      refine lv_bipush (v := 16) hx hb dX3_keep_27 (by decide) ?_
      refine lv_iadd hx hb dX3_keep_29 ?_
      refine va_lald hx hb hK hP 9 1 rfl rfl (by rw [show (16 : Int32) = nI 16 from rfl, nI_add]; exact vp_in_nI (by omega) (by decide)) dX3_keep_30 ?_
      refine va_last hx hb hK hP hD hS 9 1 rfl rfl (vp_in_nI (by omega) (by decide)) dX3_keep_31 (fun H locs hP hD hS => ?_)
      have hP : va_P (dC, dI) vwCl (wM cI cJ cZ b kd vl lo hi nd so fr tg gn nr (vp_updL (dnL kp i) (nI i).toNatClampNeg ((dnL kp i) ((nI i) + (16 : Int32)).toNatClampNeg)) ah kx st mo ma fa op nx) H := hP
      have hD : va_D A (wM cI cJ cZ b kd vl lo hi nd so fr tg gn nr (vp_updL (dnL kp i) (nI i).toNatClampNeg ((dnL kp i) ((nI i) + (16 : Int32)).toNatClampNeg)) ah kx st mo ma fa op nx) := hD
      refine lv_iinc (v := ((nI i) + 1)) (lv' := [(1, .int ((nI i) + 1)), (0, .ref (b 0))]) hx hb dX3_keep_32 hl (k := 0) rfl rfl (by decide) rfl (fun ls hl => ?_)
      refine lv_goto (tgt := 11) hx hb dX3_keep_35 (by decide) ?_
      rw [dnL_s kp (by omega)] at hP hD
      exact ih (i + 1) _ H locs ls (by omega) (nI_1 i) hP hD hS (lv_sub hl [0, 1] rfl)
set_option maxHeartbeats 4000000 in
set_option maxRecDepth 100000 in
theorem mk_b {p : Program} {l : Launch} {e : Env} {R : Room} {s : State} {m : MethodId} {args : Array Value} {below : List Frame} {meth : Method} {c : Code} {Q : State → Prop} {A : Nat → Prop} {dC : Nat → ClassId} {dI : Nat → Nat → Nat} {cI cJ cZ : ClassId} {b : Nat → Nat} (kd : Nat → Int32) (vl : Nat → Int64) (lo : Nat → Int64) (hi : Nat → Int64) (nd : Int32) (so : Nat → Int32) (fr : Nat → Int32) (tg : Nat → Int32) (gn : Nat → Int32) (nr : Int32) (kp : Nat → Int64) (ah : Nat → Int64) (kx : Nat → Int32) (st : Int32) (mo : Int32) (ma : Int32) (fa : Int32) (op : Nat → Int32) (nx : Nat → Int32)  (C0 : CallFix p m c cX3_keep 2 s args wsX3_keep RX3) (hK : va_K (dC, dI) vwCl (tA cI cJ cZ) s)  (hend : ∀ (H : Heap) (locs : List Loc) (ls : Array Slot), va_P (dC, dI) vwCl (wM cI cJ cZ b kd vl lo hi nd so fr tg gn nr kp ah (dnI kx 5) st mo ma fa op nx) H → va_D A (wM cI cJ cZ b kd vl lo hi nd so fr tg gn nr kp ah (dnI kx 5) st mo ma fa op nx) → va_S A s.heap H locs → lv_has ls 2 [(0, .ref (b 0))] → W p l e R s m args below meth c H locs 0 0 Q (F0 m 65 ls [])) :
    ∀ (n i : Nat) (x4 : Int32) (H : Heap) (locs : List Loc) (ls : Array Slot), i + n = 5 → x4 = nI i → va_P (dC, dI) vwCl (wM cI cJ cZ b kd vl lo hi nd so fr tg gn nr kp ah (dnI kx i) st mo ma fa op nx) H → va_D A (wM cI cJ cZ b kd vl lo hi nd so fr tg gn nr kp ah (dnI kx i) st mo ma fa op nx) → va_S A s.heap H locs → lv_has ls 2 [(1, .int x4), (0, .ref (b 0))] → W p l e R s m args below meth c H locs 0 0 Q (F0 m 40 ls []) := by
  obtain ⟨hx, hb, hml, hown, hts⟩ := C0
  have h_inX3 : ∀ w ∈ wsX30, w ∈ wsX3_keep := fun _ h => List.mem_cons_of_mem _ (List.mem_append_right _ h)
  have k_0 := hts (.fieldLink RX3 42 "DetentCabinetModel" "keptDials" "[I") (by decide +kernel)
  intro n
  induction n with
  | zero =>
    intro i x4 H locs ls hin ex hP hD hS hl
    subst ex
    have hin9 : i = 5 := hin
    refine lv_iload_n hx hb dX3_keep_40 rfl (lv_at hl 0 rfl) ?_
    refine lv_iconst (v := 5) hx hb dX3_keep_41 (by decide) ?_
    refine lv_icmp_ge (tgt := 65) hx hb dX3_keep_42 (by decide) (fun c_1 => ?_) (fun c_1 => ?_)
    · skip
      exact hend H locs ls (by rw [← hin9]; exact hP) (by rw [← hin9]; exact hD) hS (lv_sub hl [1] rfl)
    · skip
      exact absurd (show nI 5 ≤ nI i from nI_le (by omega) (by omega)) c_1
  | succ n ih =>
    intro i x4 H locs ls hin ex hP hD hS hl
    subst ex
    refine lv_iload_n hx hb dX3_keep_40 rfl (lv_at hl 0 rfl) ?_
    refine lv_iconst (v := 5) hx hb dX3_keep_41 (by decide) ?_
    refine lv_icmp_ge (tgt := 65) hx hb dX3_keep_42 (by decide) (fun c_1 => ?_) (fun c_1 => ?_)
    · skip
      exact absurd (show nI 5 ≤ nI i from c_1) (nI_ge (by omega) (by decide))
    · skip
      refine lv_aload_n hx hb dX3_keep_45 rfl (lv_at hl 1 rfl) ?_
      refine va_get (D := (dC, dI)) (ci := 2) (v := .ref (b 11)) (C := RX3) (T := TX3) (N := 19) hx hb hts h_inX3 hown hK hP 0 rfl rfl 12 (by decide) k_0 (fun _ h9 => h9) rfl dX3_keep_46 ?_
      refine lv_iload_n hx hb dX3_keep_49 rfl (lv_at hl 0 rfl) ?_
      refine lv_aload_n hx hb dX3_keep_50 rfl (lv_at hl 1 rfl) ?_
      refine va_get (D := (dC, dI)) (ci := 2) (v := .ref (b 11)) (C := RX3) (T := TX3) (N := 19) hx hb hts h_inX3 hown hK hP 0 rfl rfl 12 (by decide) k_0 (fun _ h9 => h9) rfl dX3_keep_51 ?_
      refine lv_iload_n hx hb dX3_keep_54 rfl (lv_at hl 0 rfl) ?_
      refine lv_iconst (v := 1) hx hb dX3_keep_55 (by decide) ?_
      refine lv_iadd hx hb dX3_keep_56 ?_
      refine va_iald hx hb hK hP 11 0 rfl rfl (by rw [nI_1]; exact vp_in_nI (by omega) (by decide)) dX3_keep_57 ?_
      refine va_iast hx hb hK hP hD hS 11 0 rfl rfl (vp_in_nI (by omega) (by decide)) dX3_keep_58 (fun H locs hP hD hS => ?_)
      have hP : va_P (dC, dI) vwCl (wM cI cJ cZ b kd vl lo hi nd so fr tg gn nr kp ah (upd (dnI kx i) (nI i).toNatClampNeg ((dnI kx i) ((nI i) + (1 : Int32)).toNatClampNeg)) st mo ma fa op nx) H := hP
      have hD : va_D A (wM cI cJ cZ b kd vl lo hi nd so fr tg gn nr kp ah (upd (dnI kx i) (nI i).toNatClampNeg ((dnI kx i) ((nI i) + (1 : Int32)).toNatClampNeg)) st mo ma fa op nx) := hD
      refine lv_iinc (v := ((nI i) + 1)) (lv' := [(1, .int ((nI i) + 1)), (0, .ref (b 0))]) hx hb dX3_keep_59 hl (k := 0) rfl rfl (by decide) rfl (fun ls hl => ?_)
      refine lv_goto (tgt := 40) hx hb dX3_keep_62 (by decide) ?_
      rw [dnI_s kx (by omega)] at hP hD
      exact ih (i + 1) _ H locs ls (by omega) (nI_1 i) hP hD hS (lv_sub hl [0, 1] rfl)
set_option maxHeartbeats 4000000 in
set_option maxRecDepth 100000 in
theorem mk_c {p : Program} {l : Launch} {e : Env} {R : Room} {s : State} {m : MethodId} {args : Array Value} {below : List Frame} {meth : Method} {c : Code} {Q : State → Prop} {A : Nat → Prop} {dC : Nat → ClassId} {dI : Nat → Nat → Nat} {cI cJ cZ : ClassId} {b : Nat → Nat} (kd : Nat → Int32) (vl : Nat → Int64) (lo : Nat → Int64) (hi : Nat → Int64) (nd : Int32) (so : Nat → Int32) (fr : Nat → Int32) (tg : Nat → Int32) (gn : Nat → Int32) (nr : Int32) (kp : Nat → Int64) (ah : Nat → Int64) (kx : Nat → Int32) (st : Int32) (mo : Int32) (ma : Int32) (fa : Int32) (op : Nat → Int32) (nx : Nat → Int32)  (C0 : CallFix p m c cX3_keep 2 s args wsX3_keep RX3) (hK : va_K (dC, dI) vwCl (tA cI cJ cZ) s) (hst : vp_in st 6) (hend : ∀ (H : Heap) (locs : List Loc) (ls : Array Slot), va_P (dC, dI) vwCl (wM cI cJ cZ b kd vl lo hi nd so fr tg gn nr (pst ah kp st 16) ah kx st mo ma fa op nx) H → va_D A (wM cI cJ cZ b kd vl lo hi nd so fr tg gn nr (pst ah kp st 16) ah kx st mo ma fa op nx) → va_S A s.heap H locs → lv_has ls 2 [(0, .ref (b 0))] → W p l e R s m args below meth c H locs 0 0 Q (F0 m 109 ls [])) :
    ∀ (n i : Nat) (x4 : Int32) (H : Heap) (locs : List Loc) (ls : Array Slot), i + n = 16 → x4 = nI i → va_P (dC, dI) vwCl (wM cI cJ cZ b kd vl lo hi nd so fr tg gn nr (pst ah kp st i) ah kx st mo ma fa op nx) H → va_D A (wM cI cJ cZ b kd vl lo hi nd so fr tg gn nr (pst ah kp st i) ah kx st mo ma fa op nx) → va_S A s.heap H locs → lv_has ls 2 [(1, .int x4), (0, .ref (b 0))] → W p l e R s m args below meth c H locs 0 0 Q (F0 m 77 ls []) := by
  obtain ⟨hx, hb, hml, hown, hts⟩ := C0
  have h_inX3 : ∀ w ∈ wsX30, w ∈ wsX3_keep := fun _ h => List.mem_cons_of_mem _ (List.mem_append_right _ h)
  have k_0 := hts (.fieldLink RX3 36 "DetentCabinetModel" "kept" "[J") (by decide +kernel)
  have k_1 := hts (.fieldLink RX3 143 "DetentCabinetModel" "steps" "I") (by decide +kernel)
  have k_2 := hts (.fieldLink RX3 39 "DetentCabinetModel" "ahead" "[J") (by decide +kernel)
  intro n
  induction n with
  | zero =>
    intro i x4 H locs ls hin ex hP hD hS hl
    subst ex
    have hin9 : i = 16 := hin
    refine lv_iload_n hx hb dX3_keep_77 rfl (lv_at hl 0 rfl) ?_
    refine lv_bipush (v := 16) hx hb dX3_keep_78 (by decide) ?_
    refine lv_icmp_ge (tgt := 109) hx hb dX3_keep_80 (by decide) (fun c_1 => ?_) (fun c_1 => ?_)
    · skip
      exact hend H locs ls (by rw [← hin9]; exact hP) (by rw [← hin9]; exact hD) hS (lv_sub hl [1] rfl)
    · skip
      exact absurd (show nI 16 ≤ nI i from nI_le (by omega) (by omega)) c_1
  | succ n ih =>
    intro i x4 H locs ls hin ex hP hD hS hl
    subst ex
    refine lv_iload_n hx hb dX3_keep_77 rfl (lv_at hl 0 rfl) ?_
    refine lv_bipush (v := 16) hx hb dX3_keep_78 (by decide) ?_
    refine lv_icmp_ge (tgt := 109) hx hb dX3_keep_80 (by decide) (fun c_1 => ?_) (fun c_1 => ?_)
    · skip
      exact absurd (show nI 16 ≤ nI i from c_1) (nI_ge (by omega) (by decide))
    · skip
      refine lv_aload_n hx hb dX3_keep_83 rfl (lv_at hl 1 rfl) ?_
      refine va_get (D := (dC, dI)) (ci := 2) (v := .ref (b 9)) (C := RX3) (T := TX3) (N := 19) hx hb hts h_inX3 hown hK hP 0 rfl rfl 10 (by decide) k_0 (fun _ h9 => h9) rfl dX3_keep_84 ?_
      refine lv_bipush (v := 16) hx hb dX3_keep_87 (by decide) ?_
      refine lv_aload_n hx hb dX3_keep_89 rfl (lv_at hl 1 rfl) ?_
      refine va_get (D := (dC, dI)) (ci := 2) (v := .int st) (C := RX3) (T := TX3) (N := 19) hx hb hts h_inX3 hown hK hP 0 rfl rfl 13 (by decide) k_1 (fun _ h9 => h9) rfl dX3_keep_90 ?_
      refine lv_imul hx hb dX3_keep_93 ?_
      refine lv_iload_n hx hb dX3_keep_94 rfl (lv_at hl 0 rfl) ?_
      refine lv_iadd hx hb dX3_keep_95 ?_
      refine lv_aload_n hx hb dX3_keep_96 rfl (lv_at hl 1 rfl) ?_
      refine va_get (D := (dC, dI)) (ci := 2) (v := .ref (b 10)) (C := RX3) (T := TX3) (N := 19) hx hb hts h_inX3 hown hK hP 0 rfl rfl 11 (by decide) k_2 (fun _ h9 => h9) rfl dX3_keep_97 ?_
      refine lv_iload_n hx hb dX3_keep_100 rfl (lv_at hl 0 rfl) ?_
      refine va_lald hx hb hK hP 10 1 rfl rfl (vp_in_nI (by omega) (by decide)) dX3_keep_101 ?_
      refine va_last hx hb hK hP hD hS 9 1 rfl rfl (kp_in hst (by omega)) dX3_keep_102 (fun H locs hP hD hS => ?_)
      have hP : va_P (dC, dI) vwCl (wM cI cJ cZ b kd vl lo hi nd so fr tg gn nr (vp_updL (pst ah kp st i) (((16 : Int32) * st) + (nI i)).toNatClampNeg (ah (nI i).toNatClampNeg)) ah kx st mo ma fa op nx) H := hP
      have hD : va_D A (wM cI cJ cZ b kd vl lo hi nd so fr tg gn nr (vp_updL (pst ah kp st i) (((16 : Int32) * st) + (nI i)).toNatClampNeg (ah (nI i).toNatClampNeg)) ah kx st mo ma fa op nx) := hD
      refine lv_iinc (v := ((nI i) + 1)) (lv' := [(1, .int ((nI i) + 1)), (0, .ref (b 0))]) hx hb dX3_keep_103 hl (k := 0) rfl rfl (by decide) rfl (fun ls hl => ?_)
      refine lv_goto (tgt := 77) hx hb dX3_keep_106 (by decide) ?_
      rw [pst_s ah kp hst (by omega)] at hP hD
      exact ih (i + 1) _ H locs ls (by omega) (nI_1 i) hP hD hS (lv_sub hl [0, 1] rfl)
theorem st_dn {st : Int32} (h : st = 6) : vp_in (st - 1) 6 := by
  subst h
  exact vp_in_nI (n := 5) (by decide) (by decide)
theorem st_in {st : Int32} (h : 0 ≤ st ∧ st ≤ 6) (h6 : ¬ st = 6) : vp_in st 6 := by
  obtain ⟨k, hk, rfl⟩ := nI_of2 (M := 6) (n := 6) (by decide) (Int32.not_lt.mpr h.1) h.2
  have hk6 : k ≠ 6 := fun q => h6 (by rw [q]; rfl)
  exact vp_in_nI (by omega) (by decide)
def m_keep (kd : Nat → Int32) (vl : Nat → Int64) (lo : Nat → Int64) (hi : Nat → Int64) (nd : Int32) (so : Nat → Int32) (fr : Nat → Int32) (tg : Nat → Int32) (gn : Nat → Int32) (nr : Int32) (kp : Nat → Int64) (ah : Nat → Int64) (kx : Nat → Int32) (st : Int32) (mo : Int32) (ma : Int32) (fa : Int32) (op : Nat → Int32) (nx : Nat → Int32) : MS :=
  if st = (6 : Int32) then (kd, vl, lo, hi, nd, so, fr, tg, gn, nr, (pst ah (dnL kp 80) (st - (1 : Int32)) 16), ah, (upd (dnI kx 5) (st - (1 : Int32)).toNatClampNeg nd), ((st - (1 : Int32)) + (1 : Int32)), mo, ma, fa, op, nx)
  else (kd, vl, lo, hi, nd, so, fr, tg, gn, nr, (pst ah kp st 16), ah, (upd kx st.toNatClampNeg nd), (st + (1 : Int32)), mo, ma, fa, op, nx)
set_option maxHeartbeats 4000000 in
set_option maxRecDepth 100000 in
theorem c_X3_keep (l : Launch) (dC : Nat → ClassId) (dI : Nat → Nat → Nat) (cI cJ cZ : ClassId) (b : Nat → Nat) (kd : Nat → Int32) (vl : Nat → Int64) (lo : Nat → Int64) (hi : Nat → Int64) (nd : Int32) (so : Nat → Int32) (fr : Nat → Int32) (tg : Nat → Int32) (gn : Nat → Int32) (nr : Int32) (kp : Nat → Int64) (ah : Nat → Int64) (kx : Nat → Int32) (st : Int32) (mo : Int32) (ma : Int32) (fa : Int32) (op : Nat → Int32) (nx : Nat → Int32) (hst : 0 ≤ st ∧ st ≤ 6) (sz : Nat) : Met l yX3_keep wsX3_keep ({ frames := 0, cells := 0, slots := 0, locals := 0 }) (va_Pc [.ref (b 0)] (fun U => U.heap.size = sz ∧ va_P (dC, dI) vwCl (wM cI cJ cZ b kd vl lo hi nd so fr tg gn nr kp ah kx st mo ma fa op nx) U.heap ∧ va_K (dC, dI) vwCl (tA cI cJ cZ) U ∧ va_D (fun _ => True) (wM cI cJ cZ b kd vl lo hi nd so fr tg gn nr kp ah kx st mo ma fa op nx))) (va_Qv (fun (u : MS) => u = m_keep kd vl lo hi nd so fr tg gn nr kp ah kx st mo ma fa op nx) (at_M dC dI cI cJ cZ (va_A (wM cI cJ cZ b kd vl lo hi nd so fr tg gn nr kp ah kx st mo ma fa op nx) sz) b) (va_A (wM cI cJ cZ b kd vl lo hi nd so fr tg gn nr kp ah kx st mo ma fa op nx) sz)) 0 0 (va_A (wM cI cJ cZ b kd vl lo hi nd so fr tg gn nr kp ah kx st mo ma fa op nx) sz) := by
  refine Met.ofW (cc := cX3_keep) (maxL := 2) (ret := none) (by decide) rfl ?_
  intro p e s m args below meth c s₁ B hml hv
  obtain ⟨rfl, hsz, hP, hK, hD0⟩ := hv
  subst hsz
  have hD := hD0.self (sz := s.heap.size)
  generalize hAe : va_A (wM cI cJ cZ b kd vl lo hi nd so fr tg gn nr kp ah kx st mo ma fa op nx) s.heap.size = A at hD ⊢
  have hA : ∀ q : Nat, s.heap.size ≤ q → A q := fun q h => by rw [← hAe]; exact Or.inr h
  have hS : va_S A s.heap s.heap [] := va_S.rf
  have hP : va_P (dC, dI) vwCl (wM cI cJ cZ b kd vl lo hi nd so fr tg gn nr kp ah kx st mo ma fa op nx) s.heap := hP
  have hx := B.exec
  have hb := B.bytes
  have hr := B.returns
  have hts := atoms_spec (ws := wsX3_keep) B.pre
  have hown : s.vm.findClass RX3 = some m.cls := findClass_of_methodNamed B.named
  have hlocks := B.notSynchronized
  have h_inX3 : ∀ w ∈ wsX30, w ∈ wsX3_keep := fun _ h => List.mem_cons_of_mem _ (List.mem_append_right _ h)
  have k_0 := hts (.fieldLink RX3 143 "DetentCabinetModel" "steps" "I") (by decide +kernel)
  have k_1 := hts (.fieldLink RX3 42 "DetentCabinetModel" "keptDials" "[I") (by decide +kernel)
  have k_2 := hts (.fieldLink RX3 51 "DetentCabinetModel" "dials" "I") (by decide +kernel)
  have hl := lv_entry ([.ref (b 0)]) (n := 2) (Nat.le_of_ble_eq_true rfl)
  rw [lg_entry_eq]
  generalize (lg_sl ([.ref (b 0)]) ++ List.replicate (2 - (lg_sl ([.ref (b 0)])).length) Slot.unset).toArray = ls at hl ⊢
  have hl : lv_has ls 2 [(0, .ref (b 0))] := hl
  refine lv_aload_n hx hb dX3_keep_0 rfl (lv_at hl 0 rfl) ?_
  refine va_get (D := (dC, dI)) (ci := 2) (v := .int st) (C := RX3) (T := TX3) (N := 19) hx hb hts h_inX3 hown hK hP 0 rfl rfl 13 (by decide) k_0 (fun _ h9 => h9) rfl dX3_keep_1 ?_
  refine lv_bipush (v := 6) hx hb dX3_keep_4 (by decide) ?_
  refine lv_icmp_ne (tgt := 75) hx hb dX3_keep_6 (by decide) (fun c_1 => ?_) (fun c_1 => ?_)
  · skip
    refine lv_iconst (v := 0) hx hb dX3_keep_75 (by decide) ?_
    refine lv_istore_n (lv' := [(1, .int (0 : Int32)), (0, .ref (b 0))]) hx hb dX3_keep_76 rfl hl (by decide) rfl (fun ls hl => ?_)
    refine mk_c kd vl lo hi nd so fr tg gn nr kp ah kx st mo ma fa op nx  ⟨hx, hb, hml, hown, hts⟩ hK (st_in hst (by assumption)) (fun H locs ls hP hD hS hl => ?_) 16 0 _ _ _ ls (by omega) nI_0.symm (by rw [pst_0]; exact hP) (by rw [pst_0]; exact hD) hS (lv_sub hl [0, 1] rfl)
    have hP : va_P (dC, dI) vwCl (wM cI cJ cZ b kd vl lo hi nd so fr tg gn nr (pst ah kp st 16) ah kx st mo ma fa op nx) H := hP
    have hD : va_D A (wM cI cJ cZ b kd vl lo hi nd so fr tg gn nr (pst ah kp st 16) ah kx st mo ma fa op nx) := hD
    refine lv_aload_n hx hb dX3_keep_109 rfl (lv_at hl 0 rfl) ?_
    refine va_get (D := (dC, dI)) (ci := 2) (v := .ref (b 11)) (C := RX3) (T := TX3) (N := 19) hx hb hts h_inX3 hown hK hP 0 rfl rfl 12 (by decide) k_1 (fun _ h9 => h9) rfl dX3_keep_110 ?_
    refine lv_aload_n hx hb dX3_keep_113 rfl (lv_at hl 0 rfl) ?_
    refine va_get (D := (dC, dI)) (ci := 2) (v := .int st) (C := RX3) (T := TX3) (N := 19) hx hb hts h_inX3 hown hK hP 0 rfl rfl 13 (by decide) k_0 (fun _ h9 => h9) rfl dX3_keep_114 ?_
    refine lv_aload_n hx hb dX3_keep_117 rfl (lv_at hl 0 rfl) ?_
    refine va_get (D := (dC, dI)) (ci := 2) (v := .int nd) (C := RX3) (T := TX3) (N := 19) hx hb hts h_inX3 hown hK hP 0 rfl rfl 4 (by decide) k_2 (fun _ h9 => h9) rfl dX3_keep_118 ?_
    refine va_iast hx hb hK hP hD hS 11 0 rfl rfl (st_in hst (by assumption)) dX3_keep_121 (fun H locs hP hD hS => ?_)
    have hP : va_P (dC, dI) vwCl (wM cI cJ cZ b kd vl lo hi nd so fr tg gn nr (pst ah kp st 16) ah (upd kx st.toNatClampNeg nd) st mo ma fa op nx) H := hP
    have hD : va_D A (wM cI cJ cZ b kd vl lo hi nd so fr tg gn nr (pst ah kp st 16) ah (upd kx st.toNatClampNeg nd) st mo ma fa op nx) := hD
    refine lv_aload_n hx hb dX3_keep_122 rfl (lv_at hl 0 rfl) ?_
    refine lv_dup hx hb dX3_keep_123 rfl ?_
    refine va_get (D := (dC, dI)) (ci := 2) (v := .int st) (C := RX3) (T := TX3) (N := 19) hx hb hts h_inX3 hown hK hP 0 rfl rfl 13 (by decide) k_0 (fun _ h9 => h9) rfl dX3_keep_124 ?_
    refine lv_iconst (v := 1) hx hb dX3_keep_127 (by decide) ?_
    refine lv_iadd hx hb dX3_keep_128 ?_
    refine va_put (D := (dC, dI)) (ci := 2) (v := .int (st + (1 : Int32))) (ty := .int) (C := RX3) (T := TX3) (N := 19) hx hb hts h_inX3 tyX3 tyX3_ok nmX3 hown hK hP hD hS 0 rfl rfl 13 (by decide) k_0 (fun _ h9 => h9) rfl (by decide +kernel) rfl rfl (Nat.le_of_ble_eq_true rfl) dX3_keep_129 (fun H locs hP hD hS => ?_)
    have hP : va_P (dC, dI) vwCl (wM cI cJ cZ b kd vl lo hi nd so fr tg gn nr (pst ah kp st 16) ah (upd kx st.toNatClampNeg nd) (st + (1 : Int32)) mo ma fa op nx) H := hP
    have hD : va_D A (wM cI cJ cZ b kd vl lo hi nd so fr tg gn nr (pst ah kp st 16) ah (upd kx st.toNatClampNeg nd) (st + (1 : Int32)) mo ma fa op nx) := hD
    exact W.vret hx hb hr (fun t ht hW => ⟨⟨(kd, vl, lo, hi, nd, so, fr, tg, gn, nr, (pst ah kp st 16), ah, (upd kx st.toNatClampNeg nd), (st + (1 : Int32)), mo, ma, fa, op, nx), rfl, (by unfold m_keep; rw [if_neg c_1]), by rw [ht]; exact hP, va_K.moved hW.alike hK, hD⟩, hS.F ht⟩) hS.2.2 dX3_keep_132
  · skip
    refine lv_iconst (v := 0) hx hb dX3_keep_9 (by decide) ?_
    refine lv_istore_n (lv' := [(1, .int (0 : Int32)), (0, .ref (b 0))]) hx hb dX3_keep_10 rfl hl (by decide) rfl (fun ls hl => ?_)
    refine mk_a kd vl lo hi nd so fr tg gn nr kp ah kx st mo ma fa op nx  ⟨hx, hb, hml, hown, hts⟩ hK  (fun H locs ls hP hD hS hl => ?_) 80 0 _ _ _ ls (by omega) nI_0.symm (by rw [dnL_0]; exact hP) (by rw [dnL_0]; exact hD) hS (lv_sub hl [0, 1] rfl)
    have hP : va_P (dC, dI) vwCl (wM cI cJ cZ b kd vl lo hi nd so fr tg gn nr (dnL kp 80) ah kx st mo ma fa op nx) H := hP
    have hD : va_D A (wM cI cJ cZ b kd vl lo hi nd so fr tg gn nr (dnL kp 80) ah kx st mo ma fa op nx) := hD
    refine lv_iconst (v := 0) hx hb dX3_keep_38 (by decide) ?_
    refine lv_istore_n (lv' := [(1, .int (0 : Int32)), (0, .ref (b 0))]) hx hb dX3_keep_39 rfl hl (by decide) rfl (fun ls hl => ?_)
    refine mk_b kd vl lo hi nd so fr tg gn nr (dnL kp 80) ah kx st mo ma fa op nx  ⟨hx, hb, hml, hown, hts⟩ hK  (fun H locs ls hP hD hS hl => ?_) 5 0 _ _ _ ls (by omega) nI_0.symm (by rw [dnI_0]; exact hP) (by rw [dnI_0]; exact hD) hS (lv_sub hl [0, 1] rfl)
    have hP : va_P (dC, dI) vwCl (wM cI cJ cZ b kd vl lo hi nd so fr tg gn nr (dnL kp 80) ah (dnI kx 5) st mo ma fa op nx) H := hP
    have hD : va_D A (wM cI cJ cZ b kd vl lo hi nd so fr tg gn nr (dnL kp 80) ah (dnI kx 5) st mo ma fa op nx) := hD
    refine lv_aload_n hx hb dX3_keep_65 rfl (lv_at hl 0 rfl) ?_
    refine lv_dup hx hb dX3_keep_66 rfl ?_
    refine va_get (D := (dC, dI)) (ci := 2) (v := .int st) (C := RX3) (T := TX3) (N := 19) hx hb hts h_inX3 hown hK hP 0 rfl rfl 13 (by decide) k_0 (fun _ h9 => h9) rfl dX3_keep_67 ?_
    refine lv_iconst (v := 1) hx hb dX3_keep_70 (by decide) ?_
    refine lv_isub hx hb dX3_keep_71 ?_
    refine va_put (D := (dC, dI)) (ci := 2) (v := .int (st - (1 : Int32))) (ty := .int) (C := RX3) (T := TX3) (N := 19) hx hb hts h_inX3 tyX3 tyX3_ok nmX3 hown hK hP hD hS 0 rfl rfl 13 (by decide) k_0 (fun _ h9 => h9) rfl (by decide +kernel) rfl rfl (Nat.le_of_ble_eq_true rfl) dX3_keep_72 (fun H locs hP hD hS => ?_)
    have hP : va_P (dC, dI) vwCl (wM cI cJ cZ b kd vl lo hi nd so fr tg gn nr (dnL kp 80) ah (dnI kx 5) (st - (1 : Int32)) mo ma fa op nx) H := hP
    have hD : va_D A (wM cI cJ cZ b kd vl lo hi nd so fr tg gn nr (dnL kp 80) ah (dnI kx 5) (st - (1 : Int32)) mo ma fa op nx) := hD
    refine lv_iconst (v := 0) hx hb dX3_keep_75 (by decide) ?_
    refine lv_istore_n (lv' := [(1, .int (0 : Int32)), (0, .ref (b 0))]) hx hb dX3_keep_76 rfl hl (by decide) rfl (fun ls hl => ?_)
    refine mk_c kd vl lo hi nd so fr tg gn nr (dnL kp 80) ah (dnI kx 5) (st - (1 : Int32)) mo ma fa op nx  ⟨hx, hb, hml, hown, hts⟩ hK (st_dn (by assumption)) (fun H locs ls hP hD hS hl => ?_) 16 0 _ _ _ ls (by omega) nI_0.symm (by rw [pst_0]; exact hP) (by rw [pst_0]; exact hD) hS (lv_sub hl [0, 1] rfl)
    have hP : va_P (dC, dI) vwCl (wM cI cJ cZ b kd vl lo hi nd so fr tg gn nr (pst ah (dnL kp 80) (st - (1 : Int32)) 16) ah (dnI kx 5) (st - (1 : Int32)) mo ma fa op nx) H := hP
    have hD : va_D A (wM cI cJ cZ b kd vl lo hi nd so fr tg gn nr (pst ah (dnL kp 80) (st - (1 : Int32)) 16) ah (dnI kx 5) (st - (1 : Int32)) mo ma fa op nx) := hD
    refine lv_aload_n hx hb dX3_keep_109 rfl (lv_at hl 0 rfl) ?_
    refine va_get (D := (dC, dI)) (ci := 2) (v := .ref (b 11)) (C := RX3) (T := TX3) (N := 19) hx hb hts h_inX3 hown hK hP 0 rfl rfl 12 (by decide) k_1 (fun _ h9 => h9) rfl dX3_keep_110 ?_
    refine lv_aload_n hx hb dX3_keep_113 rfl (lv_at hl 0 rfl) ?_
    refine va_get (D := (dC, dI)) (ci := 2) (v := .int (st - (1 : Int32))) (C := RX3) (T := TX3) (N := 19) hx hb hts h_inX3 hown hK hP 0 rfl rfl 13 (by decide) k_0 (fun _ h9 => h9) rfl dX3_keep_114 ?_
    refine lv_aload_n hx hb dX3_keep_117 rfl (lv_at hl 0 rfl) ?_
    refine va_get (D := (dC, dI)) (ci := 2) (v := .int nd) (C := RX3) (T := TX3) (N := 19) hx hb hts h_inX3 hown hK hP 0 rfl rfl 4 (by decide) k_2 (fun _ h9 => h9) rfl dX3_keep_118 ?_
    refine va_iast hx hb hK hP hD hS 11 0 rfl rfl (st_dn (by assumption)) dX3_keep_121 (fun H locs hP hD hS => ?_)
    have hP : va_P (dC, dI) vwCl (wM cI cJ cZ b kd vl lo hi nd so fr tg gn nr (pst ah (dnL kp 80) (st - (1 : Int32)) 16) ah (upd (dnI kx 5) (st - (1 : Int32)).toNatClampNeg nd) (st - (1 : Int32)) mo ma fa op nx) H := hP
    have hD : va_D A (wM cI cJ cZ b kd vl lo hi nd so fr tg gn nr (pst ah (dnL kp 80) (st - (1 : Int32)) 16) ah (upd (dnI kx 5) (st - (1 : Int32)).toNatClampNeg nd) (st - (1 : Int32)) mo ma fa op nx) := hD
    refine lv_aload_n hx hb dX3_keep_122 rfl (lv_at hl 0 rfl) ?_
    refine lv_dup hx hb dX3_keep_123 rfl ?_
    refine va_get (D := (dC, dI)) (ci := 2) (v := .int (st - (1 : Int32))) (C := RX3) (T := TX3) (N := 19) hx hb hts h_inX3 hown hK hP 0 rfl rfl 13 (by decide) k_0 (fun _ h9 => h9) rfl dX3_keep_124 ?_
    refine lv_iconst (v := 1) hx hb dX3_keep_127 (by decide) ?_
    refine lv_iadd hx hb dX3_keep_128 ?_
    refine va_put (D := (dC, dI)) (ci := 2) (v := .int ((st - (1 : Int32)) + (1 : Int32))) (ty := .int) (C := RX3) (T := TX3) (N := 19) hx hb hts h_inX3 tyX3 tyX3_ok nmX3 hown hK hP hD hS 0 rfl rfl 13 (by decide) k_0 (fun _ h9 => h9) rfl (by decide +kernel) rfl rfl (Nat.le_of_ble_eq_true rfl) dX3_keep_129 (fun H locs hP hD hS => ?_)
    have hP : va_P (dC, dI) vwCl (wM cI cJ cZ b kd vl lo hi nd so fr tg gn nr (pst ah (dnL kp 80) (st - (1 : Int32)) 16) ah (upd (dnI kx 5) (st - (1 : Int32)).toNatClampNeg nd) ((st - (1 : Int32)) + (1 : Int32)) mo ma fa op nx) H := hP
    have hD : va_D A (wM cI cJ cZ b kd vl lo hi nd so fr tg gn nr (pst ah (dnL kp 80) (st - (1 : Int32)) 16) ah (upd (dnI kx 5) (st - (1 : Int32)).toNatClampNeg nd) ((st - (1 : Int32)) + (1 : Int32)) mo ma fa op nx) := hD
    exact W.vret hx hb hr (fun t ht hW => ⟨⟨(kd, vl, lo, hi, nd, so, fr, tg, gn, nr, (pst ah (dnL kp 80) (st - (1 : Int32)) 16), ah, (upd (dnI kx 5) (st - (1 : Int32)).toNatClampNeg nd), ((st - (1 : Int32)) + (1 : Int32)), mo, ma, fa, op, nx), rfl, (by unfold m_keep; rw [if_pos c_1]), by rw [ht]; exact hP, va_K.moved hW.alike hK, hD⟩, hS.F ht⟩) hS.2.2 dX3_keep_132
theorem m_keep_eq (kd : Nat → Int32) (vl : Nat → Int64) (lo : Nat → Int64) (hi : Nat → Int64) (nd : Int32) (so : Nat → Int32) (fr : Nat → Int32) (tg : Nat → Int32) (gn : Nat → Int32) (nr : Int32) (kp : Nat → Int64) (ah : Nat → Int64) (kx : Nat → Int32) (st : Int32) (mo : Int32) (ma : Int32) (fa : Int32) (op : Nat → Int32) (nx : Nat → Int32) : m_keep kd vl lo hi nd so fr tg gn nr kp ah kx st mo ma fa op nx = (kd, vl, lo, hi, nd, so, fr, tg, gn, nr, (if st = 6 then pst ah (dnL kp 80) (st - 1) 16 else pst ah kp st 16), ah, (if st = 6 then upd (dnI kx 5) (st - 1).toNatClampNeg nd else upd kx st.toNatClampNeg nd), (if st = 6 then st - 1 + 1 else st + 1), mo, ma, fa, op, nx) := by
  unfold m_keep
  by_cases h : st = 6
  · simp only [if_pos h]
  · simp only [if_neg h]
