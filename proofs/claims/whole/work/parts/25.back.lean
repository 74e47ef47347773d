theorem smI_pr {x : Int32} (h : smI x) (h0 : ¬ x = 0) : smI (x - 1) := by
  obtain ⟨n, hn, rfl⟩ := h
  cases n with
  | zero => exact absurd nI_0 h0
  | succ n => exact ⟨n, by omega, nI_pred n⟩
theorem sv_in {x : Int32} {i : Nat} (hx : vp_in x 6) (hi : i < 16) : vp_in (x * 16 + nI i) 96 := by
  obtain ⟨j, hj, rfl⟩ := vp_in_of hx (by decide)
  rw [show (16 : Int32) = nI 16 from rfl, pk_mul, nI_add]
  exact vp_in_nI (by omega) (by decide)
theorem n16_nat {x : Int32} (h : 0 ≤ x ∧ x ≤ 16) : x = nI x.toNatClampNeg ∧ x.toNatClampNeg ≤ 16 := by
  obtain ⟨N, hN, rfl⟩ := nI_of2 (M := 16) (n := 16) (by decide) (Int32.not_lt.mpr h.1) h.2
  rw [nI_clamp (by omega)]
  exact ⟨rfl, hN⟩
def r_back (sv : Nat → Int64) (sl : Int32) : Nat → Nat → (Nat → Int64) → Int32 → Int32 × (Nat → Int64)
  | 0, _, vl, o => (o, vl)
  | n + 1, i, vl, o => if vl (nI i).toNatClampNeg = sv (sl * 16 + nI i).toNatClampNeg then r_back sv sl n (i + 1) vl o else r_back sv sl n (i + 1) (vp_updL vl (nI i).toNatClampNeg (sv (sl * 16 + nI i).toNatClampNeg)) (o + 1)
set_option maxHeartbeats 4000000 in
set_option maxRecDepth 100000 in
theorem rl_loop {p : Program} {l : Launch} {e : Env} {R : Room} {s : State} {m : MethodId} {args : Array Value} {below : List Frame} {meth : Method} {c : Code} {Q : State → Prop} {A : Nat → Prop} {dC : Nat → ClassId} {dI : Nat → Nat → Nat} {cI cJ cZ : ClassId} {a : Nat → Nat} (kd : Nat → Int32) (lo : Nat → Int64) (hi : Nat → Int64) (nd : Int32) (so : Nat → Int32) (fr : Nat → Int32) (tg : Nat → Int32) (gn : Nat → Int32) (nr : Int32) (mo : Int32) (ma : Int32) (fa : Int32) (sv : Nat → Int64) (sd : Nat → Int32) (se : Int32) (sh : Int32) (N : Nat) (sl : Int32) (RES : Int32 × (Nat → Int64)) (C0 : CallFix p m c cX1_restoreLatest 7 s args wsX1_restoreLatest RX1) (hK : va_K (dC, dI) vwCl (tA cI cJ cZ) s) (hsl : vp_in sl 6) (hN : sd sl.toNatClampNeg = nI N) (hN16 : N ≤ 16) (hend : ∀ (vl : Nat → Int64) (o : Int32) (H : Heap) (locs : List Loc) (ls : Array Slot), RES = (o, vl) → va_P (dC, dI) vwCl (wX cI cJ cZ a kd lo hi vl nd so fr tg gn nr mo ma fa sv sd se sh) H → va_D A (wX cI cJ cZ a kd lo hi vl nd so fr tg gn nr mo ma fa sv sd se sh) → va_S A s.heap H locs → lv_has ls 7 [(3, .int o), (2, .int sl), (0, .ref (a 9)), (1, .ref (a 4))] → W p l e R s m args below meth c H locs 0 0 Q (F0 m 78 ls [])) :
    ∀ (n i : Nat) (x4 : Int32) (vl : Nat → Int64) (o : Int32) (H : Heap) (locs : List Loc) (ls : Array Slot), i + n = N → x4 = nI i → RES = r_back sv sl n i vl o → va_P (dC, dI) vwCl (wX cI cJ cZ a kd lo hi vl nd so fr tg gn nr mo ma fa sv sd se sh) H → va_D A (wX cI cJ cZ a kd lo hi vl nd so fr tg gn nr mo ma fa sv sd se sh) → va_S A s.heap H locs → lv_has ls 7 [(4, .int x4), (3, .int o), (2, .int sl), (0, .ref (a 9)), (1, .ref (a 4))] → W p l e R s m args below meth c H locs 0 0 Q (F0 m 28 ls []) := by
  obtain ⟨hx, hb, hml, hown, hts⟩ := C0
  have h_inX1 : ∀ w ∈ wsX10, w ∈ wsX1_restoreLatest := fun _ h => List.mem_cons_of_mem _ (List.mem_append_right _ h)
  have k_0 := hts (.fieldLink RX1 15 "DetentCabinet$Steps" "dialsAhead" "[I") (by decide +kernel)
  have k_1 := hts (.fieldLink RX1 9 "DetentCabinet$Steps" "valuesAhead" "[J") (by decide +kernel)
  intro n
  induction n with
  | zero =>
    intro i x4 vl o H locs ls hin ex hres hP hD hS hl
    subst ex
    refine lv_iload hx hb dX1_restoreLatest_28 (lv_at hl 0 rfl) ?_
    refine lv_aload_n hx hb dX1_restoreLatest_30 rfl (lv_at hl 3 rfl) ?_
    refine va_get (D := (dC, dI)) (ci := 0) (v := .ref (a 11)) (C := RX1) (T := TX1) (N := 4) hx hb hts h_inX1 hown hK hP 9 rfl rfl 1 (by decide) k_0 (fun _ h9 => h9) rfl dX1_restoreLatest_31 ?_
    refine lv_iload_n hx hb dX1_restoreLatest_34 rfl (lv_at hl 2 rfl) ?_
    refine va_iald hx hb hK hP 11 0 rfl rfl hsl dX1_restoreLatest_35 ?_
    refine lv_icmp_ge (tgt := 78) hx hb dX1_restoreLatest_36 (by decide) (fun c_1 => ?_) (fun c_1 => ?_)
    · skip
      exact hend vl o H locs ls hres hP hD hS (lv_sub hl [1, 2, 3, 4] rfl)
    · skip
      exact absurd (by rw [hN]; exact nI_le (by omega) (by omega)) c_1
  | succ n ih =>
    intro i x4 vl o H locs ls hin ex hres hP hD hS hl
    subst ex
    refine lv_iload hx hb dX1_restoreLatest_28 (lv_at hl 0 rfl) ?_
    refine lv_aload_n hx hb dX1_restoreLatest_30 rfl (lv_at hl 3 rfl) ?_
    refine va_get (D := (dC, dI)) (ci := 0) (v := .ref (a 11)) (C := RX1) (T := TX1) (N := 4) hx hb hts h_inX1 hown hK hP 9 rfl rfl 1 (by decide) k_0 (fun _ h9 => h9) rfl dX1_restoreLatest_31 ?_
    refine lv_iload_n hx hb dX1_restoreLatest_34 rfl (lv_at hl 2 rfl) ?_
    refine va_iald hx hb hK hP 11 0 rfl rfl hsl dX1_restoreLatest_35 ?_
    refine lv_icmp_ge (tgt := 78) hx hb dX1_restoreLatest_36 (by decide) (fun c_1 => ?_) (fun c_1 => ?_)
    · skip
      exact absurd (by rw [hN] at c_1; exact c_1) (nI_ge (by omega) (by omega))
    · skip
      refine lv_aload_n hx hb dX1_restoreLatest_39 rfl (lv_at hl 3 rfl) ?_
      refine va_get (D := (dC, dI)) (ci := 0) (v := .ref (a 10)) (C := RX1) (T := TX1) (N := 4) hx hb hts h_inX1 hown hK hP 9 rfl rfl 0 (by decide) k_1 (fun _ h9 => h9) rfl dX1_restoreLatest_40 ?_
      refine lv_iload_n hx hb dX1_restoreLatest_43 rfl (lv_at hl 2 rfl) ?_
      refine lv_bipush (v := 16) hx hb dX1_restoreLatest_44 (by decide) ?_
      refine lv_imul hx hb dX1_restoreLatest_46 ?_
      refine lv_iload hx hb dX1_restoreLatest_47 (lv_at hl 0 rfl) ?_
      refine lv_iadd hx hb dX1_restoreLatest_49 ?_
      refine va_lald hx hb hK hP 10 1 rfl rfl (sv_in hsl (by omega)) dX1_restoreLatest_50 ?_
      refine lv_lstore (lv' := [(5, .long (sv ((sl * (16 : Int32)) + (nI i)).toNatClampNeg)), (4, .int (nI i)), (3, .int o), (2, .int sl), (0, .ref (a 9)), (1, .ref (a 4))]) hx hb dX1_restoreLatest_51 hl (by decide) rfl (fun ls hl => ?_)
      refine lv_aload_n hx hb dX1_restoreLatest_53 rfl (lv_at hl 5 rfl) ?_
      refine lv_iload hx hb dX1_restoreLatest_54 (lv_at hl 1 rfl) ?_
      refine va_lald hx hb hK hP 4 1 rfl rfl (vp_in_nI (by omega) (by decide)) dX1_restoreLatest_56 ?_
      refine lv_lload hx hb dX1_restoreLatest_57 (lv_at hl 0 rfl) ?_
      refine W.lcmp hx hb dX1_restoreLatest_59 ?_
      refine lv_if_eq (tgt := 72) hx hb dX1_restoreLatest_60 (by decide) (fun c_2 => ?_) (fun c_2 => ?_)
      · skip
        have c_2 : (vl (nI i).toNatClampNeg) = (sv ((sl * (16 : Int32)) + (nI i)).toNatClampNeg) := (lg_cmp_eq _ _).mp c_2
        refine lv_iinc (v := ((nI i) + 1)) (lv' := [(4, .int ((nI i) + 1)), (5, .long (sv ((sl * (16 : Int32)) + (nI i)).toNatClampNeg)), (3, .int o), (2, .int sl), (0, .ref (a 9)), (1, .ref (a 4))]) hx hb dX1_restoreLatest_72 hl (k := 1) rfl rfl (by decide) rfl (fun ls hl => ?_)
        refine lv_goto (tgt := 28) hx hb dX1_restoreLatest_75 (by decide) ?_
        exact ih (i + 1) _ vl o H locs ls (by omega) (nI_1 i) (hres.trans (if_pos c_2)) hP hD hS (lv_sub hl [0, 2, 3, 4, 5] rfl)
      · skip
        have c_2 : ¬ ((vl (nI i).toNatClampNeg) = (sv ((sl * (16 : Int32)) + (nI i)).toNatClampNeg)) := fun h => c_2 ((lg_cmp_eq _ _).mpr h)
        refine lv_aload_n hx hb dX1_restoreLatest_63 rfl (lv_at hl 5 rfl) ?_
        refine lv_iload hx hb dX1_restoreLatest_64 (lv_at hl 1 rfl) ?_
        refine lv_lload hx hb dX1_restoreLatest_66 (lv_at hl 0 rfl) ?_
        refine va_last hx hb hK hP hD hS 4 1 rfl rfl (vp_in_nI (by omega) (by decide)) dX1_restoreLatest_68 (fun H locs hP hD hS => ?_)
        have hP : va_P (dC, dI) vwCl (wX cI cJ cZ a kd lo hi (vp_updL vl (nI i).toNatClampNeg (sv ((sl * (16 : Int32)) + (nI i)).toNatClampNeg)) nd so fr tg gn nr mo ma fa sv sd se sh) H := hP
        have hD : va_D A (wX cI cJ cZ a kd lo hi (vp_updL vl (nI i).toNatClampNeg (sv ((sl * (16 : Int32)) + (nI i)).toNatClampNeg)) nd so fr tg gn nr mo ma fa sv sd se sh) := hD
        refine lv_iinc (v := (o + 1)) (lv' := [(3, .int (o + 1)), (5, .long (sv ((sl * (16 : Int32)) + (nI i)).toNatClampNeg)), (4, .int (nI i)), (2, .int sl), (0, .ref (a 9)), (1, .ref (a 4))]) hx hb dX1_restoreLatest_69 hl (k := 2) rfl rfl (by decide) rfl (fun ls hl => ?_)
        refine lv_iinc (v := ((nI i) + 1)) (lv' := [(4, .int ((nI i) + 1)), (3, .int (o + 1)), (5, .long (sv ((sl * (16 : Int32)) + (nI i)).toNatClampNeg)), (2, .int sl), (0, .ref (a 9)), (1, .ref (a 4))]) hx hb dX1_restoreLatest_72 hl (k := 2) rfl rfl (by decide) rfl (fun ls hl => ?_)
        refine lv_goto (tgt := 28) hx hb dX1_restoreLatest_75 (by decide) ?_
        exact ih (i + 1) _ (vp_updL vl (nI i).toNatClampNeg (sv ((sl * (16 : Int32)) + (nI i)).toNatClampNeg)) (o + 1) H locs ls (by omega) (nI_1 i) (hres.trans (if_neg c_2)) hP hD hS (lv_sub hl [0, 1, 3, 4, 5] rfl)
def s_restoreLatest (kd : Nat → Int32) (lo : Nat → Int64) (hi : Nat → Int64) (vl : Nat → Int64) (nd : Int32) (so : Nat → Int32) (fr : Nat → Int32) (tg : Nat → Int32) (gn : Nat → Int32) (nr : Int32) (mo : Int32) (ma : Int32) (fa : Int32) (sv : Nat → Int64) (sd : Nat → Int32) (se : Int32) (sh : Int32) : Int32 × XS :=
  ((r_back sv ((se + (sh - (1 : Int32))) - (se + (sh - (1 : Int32))) / (6 : Int32) * (6 : Int32)) (sd ((se + (sh - (1 : Int32))) - (se + (sh - (1 : Int32))) / (6 : Int32) * (6 : Int32)).toNatClampNeg).toNatClampNeg 0 vl 0).1, kd, lo, hi, (r_back sv ((se + (sh - (1 : Int32))) - (se + (sh - (1 : Int32))) / (6 : Int32) * (6 : Int32)) (sd ((se + (sh - (1 : Int32))) - (se + (sh - (1 : Int32))) / (6 : Int32) * (6 : Int32)).toNatClampNeg).toNatClampNeg 0 vl 0).2, nd, so, fr, tg, gn, nr, mo, ma, fa, sv, sd, se, (sh - (1 : Int32)))
set_option maxHeartbeats 4000000 in
set_option maxRecDepth 100000 in
theorem c_X1_restoreLatest (l : Launch) (dC : Nat → ClassId) (dI : Nat → Nat → Nat) (cI cJ cZ : ClassId) (a : Nat → Nat) (kd : Nat → Int32) (lo : Nat → Int64) (hi : Nat → Int64) (vl : Nat → Int64) (nd : Int32) (so : Nat → Int32) (fr : Nat → Int32) (tg : Nat → Int32) (gn : Nat → Int32) (nr : Int32) (mo : Int32) (ma : Int32) (fa : Int32) (sv : Nat → Int64) (sd : Nat → Int32) (se : Int32) (sh : Int32) (hE : okE se sh) (h0 : ¬ sh = 0) (hsd : ∀ j, 0 ≤ sd j ∧ sd j ≤ 16) (sz : Nat) : Met l yX1_restoreLatest wsX1_restoreLatest ({ frames := 0, cells := 0, slots := 0, locals := 0 }) (va_Pc [.ref (a 9), .ref (a 4)] (fun U => U.heap.size = sz ∧ va_P (dC, dI) vwCl (wX cI cJ cZ a kd lo hi vl nd so fr tg gn nr mo ma fa sv sd se sh) U.heap ∧ va_K (dC, dI) vwCl (tA cI cJ cZ) U ∧ va_D (fun _ => True) (wX cI cJ cZ a kd lo hi vl nd so fr tg gn nr mo ma fa sv sd se sh))) (va_Qi (fun (r : Int32) (u : XS) => (r, u) = s_restoreLatest kd lo hi vl nd so fr tg gn nr mo ma fa sv sd se sh) (at_X dC dI cI cJ cZ (va_A (wX cI cJ cZ a kd lo hi vl nd so fr tg gn nr mo ma fa sv sd se sh) sz) a) (va_A (wX cI cJ cZ a kd lo hi vl nd so fr tg gn nr mo ma fa sv sd se sh) sz)) 0 0 (va_A (wX cI cJ cZ a kd lo hi vl nd so fr tg gn nr mo ma fa sv sd se sh) sz) := by
  refine Met.ofW (cc := cX1_restoreLatest) (maxL := 7) (ret := (some .int)) (by decide) rfl ?_
  intro p e s m args below meth c s₁ B hml hv
  obtain ⟨rfl, hsz, hP, hK, hD0⟩ := hv
  subst hsz
  have hD := hD0.self (sz := s.heap.size)
  generalize hAe : va_A (wX cI cJ cZ a kd lo hi vl nd so fr tg gn nr mo ma fa sv sd se sh) s.heap.size = A at hD ⊢
  have hA : ∀ q : Nat, s.heap.size ≤ q → A q := fun q h => by rw [← hAe]; exact Or.inr h
  have hS : va_S A s.heap s.heap [] := va_S.rf
  have hP : va_P (dC, dI) vwCl (wX cI cJ cZ a kd lo hi vl nd so fr tg gn nr mo ma fa sv sd se sh) s.heap := hP
  have hx := B.exec
  have hb := B.bytes
  have hr := B.returns
  have hts := atoms_spec (ws := wsX1_restoreLatest) B.pre
  have hown : s.vm.findClass RX1 = some m.cls := findClass_of_methodNamed B.named
  have hlocks := B.notSynchronized
  have h_inX1 : ∀ w ∈ wsX10, w ∈ wsX1_restoreLatest := fun _ h => List.mem_cons_of_mem _ (List.mem_append_right _ h)
  have k_0 := hts (.fieldLink RX1 19 "DetentCabinet$Steps" "held" "I") (by decide +kernel)
  have k_1 := hts (.fieldLink RX1 23 "DetentCabinet$Steps" "earliest" "I") (by decide +kernel)
  have hl := lv_entry ([.ref (a 9), .ref (a 4)]) (n := 7) (Nat.le_of_ble_eq_true rfl)
  rw [lg_entry_eq]
  generalize (lg_sl ([.ref (a 9), .ref (a 4)]) ++ List.replicate (7 - (lg_sl ([.ref (a 9), .ref (a 4)])).length) Slot.unset).toArray = ls at hl ⊢
  have hl : lv_has ls 7 [(0, .ref (a 9)), (1, .ref (a 4))] := hl
  refine lv_aload_n hx hb dX1_restoreLatest_0 rfl (lv_at hl 0 rfl) ?_
  refine lv_dup hx hb dX1_restoreLatest_1 rfl ?_
  refine va_get (D := (dC, dI)) (ci := 0) (v := .int sh) (C := RX1) (T := TX1) (N := 4) hx hb hts h_inX1 hown hK hP 9 rfl rfl 3 (by decide) k_0 (fun _ h9 => h9) rfl dX1_restoreLatest_2 ?_
  refine lv_iconst (v := 1) hx hb dX1_restoreLatest_5 (by decide) ?_
  refine lv_isub hx hb dX1_restoreLatest_6 ?_
  refine va_put (D := (dC, dI)) (ci := 0) (v := .int (sh - (1 : Int32))) (ty := .int) (C := RX1) (T := TX1) (N := 4) hx hb hts h_inX1 tyX1 tyX1_ok nmX1 hown hK hP hD hS 9 rfl rfl 3 (by decide) k_0 (fun _ h9 => h9) rfl (by decide +kernel) rfl rfl (Nat.le_of_ble_eq_true rfl) dX1_restoreLatest_7 (fun H locs hP hD hS => ?_)
  have hP : va_P (dC, dI) vwCl (wX cI cJ cZ a kd lo hi vl nd so fr tg gn nr mo ma fa sv sd se (sh - (1 : Int32))) H := hP
  have hD : va_D A (wX cI cJ cZ a kd lo hi vl nd so fr tg gn nr mo ma fa sv sd se (sh - (1 : Int32))) := hD
  refine lv_aload_n hx hb dX1_restoreLatest_10 rfl (lv_at hl 0 rfl) ?_
  refine va_get (D := (dC, dI)) (ci := 0) (v := .int se) (C := RX1) (T := TX1) (N := 4) hx hb hts h_inX1 hown hK hP 9 rfl rfl 2 (by decide) k_1 (fun _ h9 => h9) rfl dX1_restoreLatest_11 ?_
  refine lv_aload_n hx hb dX1_restoreLatest_14 rfl (lv_at hl 0 rfl) ?_
  refine va_get (D := (dC, dI)) (ci := 0) (v := .int (sh - (1 : Int32))) (C := RX1) (T := TX1) (N := 4) hx hb hts h_inX1 hown hK hP 9 rfl rfl 3 (by decide) k_0 (fun _ h9 => h9) rfl dX1_restoreLatest_15 ?_
  refine lv_iadd hx hb dX1_restoreLatest_18 ?_
  refine lv_bipush (v := 6) hx hb dX1_restoreLatest_19 (by decide) ?_
  refine lv_irem hx hb dX1_restoreLatest_21 (by decide) ?_
  refine lv_istore_n (lv' := [(2, .int ((se + (sh - (1 : Int32))) - (se + (sh - (1 : Int32))) / (6 : Int32) * (6 : Int32))), (0, .ref (a 9)), (1, .ref (a 4))]) hx hb dX1_restoreLatest_22 rfl hl (by decide) rfl (fun ls hl => ?_)
  refine lv_iconst (v := 0) hx hb dX1_restoreLatest_23 (by decide) ?_
  refine lv_istore_n (lv' := [(3, .int (0 : Int32)), (2, .int ((se + (sh - (1 : Int32))) - (se + (sh - (1 : Int32))) / (6 : Int32) * (6 : Int32))), (0, .ref (a 9)), (1, .ref (a 4))]) hx hb dX1_restoreLatest_24 rfl hl (by decide) rfl (fun ls hl => ?_)
  refine lv_iconst (v := 0) hx hb dX1_restoreLatest_25 (by decide) ?_
  refine lv_istore (lv' := [(4, .int (0 : Int32)), (3, .int (0 : Int32)), (2, .int ((se + (sh - (1 : Int32))) - (se + (sh - (1 : Int32))) / (6 : Int32) * (6 : Int32))), (0, .ref (a 9)), (1, .ref (a 4))]) hx hb dX1_restoreLatest_26 hl (by decide) rfl (fun ls hl => ?_)
  refine rl_loop kd lo hi nd so fr tg gn nr mo ma fa sv sd se (sh - (1 : Int32)) (sd ((se + (sh - (1 : Int32))) - (se + (sh - (1 : Int32))) / (6 : Int32) * (6 : Int32)).toNatClampNeg).toNatClampNeg ((se + (sh - (1 : Int32))) - (se + (sh - (1 : Int32))) / (6 : Int32) * (6 : Int32)) (r_back sv ((se + (sh - (1 : Int32))) - (se + (sh - (1 : Int32))) / (6 : Int32) * (6 : Int32)) (sd ((se + (sh - (1 : Int32))) - (se + (sh - (1 : Int32))) / (6 : Int32) * (6 : Int32)).toNatClampNeg).toNatClampNeg 0 vl 0) ⟨hx, hb, hml, hown, hts⟩ hK (slot_in (smI_se hE) (smI_pr (smI_sh hE) h0)) (n16_nat (hsd _)).1 (n16_nat (hsd _)).2 (fun vl_9 o_9 H locs ls hres hP hD hS hl => ?_) (sd ((se + (sh - (1 : Int32))) - (se + (sh - (1 : Int32))) / (6 : Int32) * (6 : Int32)).toNatClampNeg).toNatClampNeg 0 _ vl _ H locs ls (by omega) nI_0.symm rfl hP hD hS (lv_sub hl [0, 1, 2, 3, 4] rfl)
  refine lv_iload_n hx hb dX1_restoreLatest_78 rfl (lv_at hl 0 rfl) ?_
  exact W.iret (v := o_9) hx hb hr (fun t ht hW => ⟨⟨o_9, (kd, lo, hi, vl_9, nd, so, fr, tg, gn, nr, mo, ma, fa, sv, sd, se, (sh - (1 : Int32))), rfl, (by unfold s_restoreLatest; rw [hres]), by rw [ht]; exact hP, va_K.moved hW.alike hK, hD⟩, hS.F ht⟩) hS.2.2 dX1_restoreLatest_79
theorem s_rl_eq (kd : Nat → Int32) (lo : Nat → Int64) (hi : Nat → Int64) (vl : Nat → Int64) (nd : Int32) (so : Nat → Int32) (fr : Nat → Int32) (tg : Nat → Int32) (gn : Nat → Int32) (nr : Int32) (mo : Int32) (ma : Int32) (fa : Int32) (sv : Nat → Int64) (sd : Nat → Int32) (se : Int32) (sh : Int32) : s_restoreLatest kd lo hi vl nd so fr tg gn nr mo ma fa sv sd se sh = ((r_back sv ((se + (sh - (1 : Int32))) - (se + (sh - (1 : Int32))) / (6 : Int32) * (6 : Int32)) (sd ((se + (sh - (1 : Int32))) - (se + (sh - (1 : Int32))) / (6 : Int32) * (6 : Int32)).toNatClampNeg).toNatClampNeg 0 vl 0).1, kd, lo, hi, (r_back sv ((se + (sh - (1 : Int32))) - (se + (sh - (1 : Int32))) / (6 : Int32) * (6 : Int32)) (sd ((se + (sh - (1 : Int32))) - (se + (sh - (1 : Int32))) / (6 : Int32) * (6 : Int32)).toNatClampNeg).toNatClampNeg 0 vl 0).2, nd, so, fr, tg, gn, nr, mo, ma, fa, sv, sd, se, (sh - (1 : Int32))) := by
  rfl
theorem held_ne {sh : Int32} (h : ¬ s_held sh = 0) : ¬ sh = 0 := h
def x_back (kd : Nat → Int32) (lo : Nat → Int64) (hi : Nat → Int64) (vl : Nat → Int64) (nd : Int32) (so : Nat → Int32) (fr : Nat → Int32) (tg : Nat → Int32) (gn : Nat → Int32) (nr : Int32) (mo : Int32) (ma : Int32) (fa : Int32) (sv : Nat → Int64) (sd : Nat → Int32) (se : Int32) (sh : Int32) : Int32 × XS :=
  if (s_held sh) = 0 then ((-1 : Int32), kd, lo, hi, vl, nd, so, fr, tg, gn, nr, mo, ma, (7 : Int32), sv, sd, se, sh)
  else ((r_back sv ((se + (sh - (1 : Int32))) - (se + (sh - (1 : Int32))) / (6 : Int32) * (6 : Int32)) (sd ((se + (sh - (1 : Int32))) - (se + (sh - (1 : Int32))) / (6 : Int32) * (6 : Int32)).toNatClampNeg).toNatClampNeg 0 vl 0).1, kd, lo, hi, (r_back sv ((se + (sh - (1 : Int32))) - (se + (sh - (1 : Int32))) / (6 : Int32) * (6 : Int32)) (sd ((se + (sh - (1 : Int32))) - (se + (sh - (1 : Int32))) / (6 : Int32) * (6 : Int32)).toNatClampNeg).toNatClampNeg 0 vl 0).2, nd, so, fr, tg, gn, nr, mo, ma, (0 : Int32), sv, sd, se, (sh - (1 : Int32)))
set_option maxHeartbeats 4000000 in
set_option maxRecDepth 100000 in
theorem c_X2_back (l : Launch) (dC : Nat → ClassId) (dI : Nat → Nat → Nat) (cI cJ cZ : ClassId) (a : Nat → Nat) (kd : Nat → Int32) (lo : Nat → Int64) (hi : Nat → Int64) (vl : Nat → Int64) (nd : Int32) (so : Nat → Int32) (fr : Nat → Int32) (tg : Nat → Int32) (gn : Nat → Int32) (nr : Int32) (mo : Int32) (ma : Int32) (fa : Int32) (sv : Nat → Int64) (sd : Nat → Int32) (se : Int32) (sh : Int32) (hE : okE se sh) (hsd : ∀ j, 0 ≤ sd j ∧ sd j ≤ 16) (sz : Nat) : Met l yX2_back wsX2_back ({ frames := 1, cells := 0, slots := 0, locals := 26 }) (va_Pc [.ref (a 0)] (fun U => U.heap.size = sz ∧ va_P (dC, dI) vwCl (wX cI cJ cZ a kd lo hi vl nd so fr tg gn nr mo ma fa sv sd se sh) U.heap ∧ va_K (dC, dI) vwCl (tA cI cJ cZ) U ∧ va_D (fun _ => True) (wX cI cJ cZ a kd lo hi vl nd so fr tg gn nr mo ma fa sv sd se sh))) (va_Qi (fun (r : Int32) (u : XS) => (r, u) = x_back kd lo hi vl nd so fr tg gn nr mo ma fa sv sd se sh) (at_X dC dI cI cJ cZ (va_A (wX cI cJ cZ a kd lo hi vl nd so fr tg gn nr mo ma fa sv sd se sh) sz) a) (va_A (wX cI cJ cZ a kd lo hi vl nd so fr tg gn nr mo ma fa sv sd se sh) sz)) 0 0 (va_A (wX cI cJ cZ a kd lo hi vl nd so fr tg gn nr mo ma fa sv sd se sh) sz) := by
  refine Met.ofW (cc := cX2_back) (maxL := 1) (ret := (some .int)) (by decide) rfl ?_
  intro p e s m args below meth c s₁ B hml hv
  obtain ⟨rfl, hsz, hP, hK, hD0⟩ := hv
  subst hsz
  have hD := hD0.self (sz := s.heap.size)
  generalize hAe : va_A (wX cI cJ cZ a kd lo hi vl nd so fr tg gn nr mo ma fa sv sd se sh) s.heap.size = A at hD ⊢
  have hA : ∀ q : Nat, s.heap.size ≤ q → A q := fun q h => by rw [← hAe]; exact Or.inr h
  have hS : va_S A s.heap s.heap [] := va_S.rf
  have hP : va_P (dC, dI) vwCl (wX cI cJ cZ a kd lo hi vl nd so fr tg gn nr mo ma fa sv sd se sh) s.heap := hP
  have hx := B.exec
  have hb := B.bytes
  have hr := B.returns
  have hts := atoms_spec (ws := wsX2_back) B.pre
  have hown : s.vm.findClass RX2 = some m.cls := findClass_of_methodNamed B.named
  have hlocks := B.notSynchronized
  have h_inX2 : ∀ w ∈ wsX20, w ∈ wsX2_back := fun _ h => List.mem_cons_of_mem _ (List.mem_append_left _ (List.mem_append_right _ h))
  have k_0 := hts (.fieldLink RX2 39 "DetentCabinet" "steps" "LDetentCabinet$Steps;") (by decide +kernel)
  have k_1 := hts (.fieldLink RX2 47 "DetentCabinet" "fault" "I") (by decide +kernel)
  have k_2 := hts (.fieldLink RX2 20 "DetentCabinet" "values" "[J") (by decide +kernel)
  have hl := lv_entry ([.ref (a 0)]) (n := 1) (Nat.le_of_ble_eq_true rfl)
  rw [lg_entry_eq]
  generalize (lg_sl ([.ref (a 0)]) ++ List.replicate (1 - (lg_sl ([.ref (a 0)])).length) Slot.unset).toArray = ls at hl ⊢
  have hl : lv_has ls 1 [(0, .ref (a 0))] := hl
  refine lv_aload_n hx hb dX2_back_0 rfl (lv_at hl 0 rfl) ?_
  refine lv_aload_n hx hb dX2_back_1 rfl (lv_at hl 0 rfl) ?_
  refine va_get (D := (dC, dI)) (ci := 1) (v := .ref (a 9)) (C := RX2) (T := TX2) (N := 14) hx hb hts h_inX2 hown hK hP 0 rfl rfl 10 (by decide) k_0 (fun _ h9 => h9) rfl dX2_back_2 ?_
  refine cs_i (W.runV (As := []) (rest := [.ref (a 0)]) ⟨hx, hb, hml, hown, hts⟩ (c_X1_held l dC dI cI cJ cZ a kd lo hi vl nd so fr tg gn nr mo ma fa sv sd se sh  ) (cwV 0 hts gX2_back_X1_held rfl rfl rfl (by decide +kernel) ⟨Nat.le_of_ble_eq_true rfl, Nat.le_of_ble_eq_true rfl⟩) (fb_v hK hP (va_recv hK hP (ci := 0) (q0 := 9) rfl rfl)) rfl rfl hl.1 rfl (lv_room (Nat.le_of_ble_eq_true rfl)) dX2_back_5 ⟨Nat.zero_le _, Nat.zero_le _⟩) ?_
  refine lv_if_ne (tgt := 16) hx hb dX2_back_8 (by decide) (fun c_1 => ?_) (fun c_1 => ?_)
  · skip
    refine lv_iconst (v := 0) hx hb dX2_back_16 (by decide) ?_
    refine va_put (D := (dC, dI)) (ci := 1) (v := .int (0 : Int32)) (ty := .int) (C := RX2) (T := TX2) (N := 14) hx hb hts h_inX2 tyX2 tyX2_ok nmX2 hown hK hP hD hS 0 rfl rfl 13 (by decide) k_1 (fun _ h9 => h9) rfl (by decide +kernel) rfl rfl (Nat.le_of_ble_eq_true rfl) dX2_back_17 (fun H locs hP hD hS => ?_)
    have hP : va_P (dC, dI) vwCl (wX cI cJ cZ a kd lo hi vl nd so fr tg gn nr mo ma (0 : Int32) sv sd se sh) H := hP
    have hD : va_D A (wX cI cJ cZ a kd lo hi vl nd so fr tg gn nr mo ma (0 : Int32) sv sd se sh) := hD
    refine lv_aload_n hx hb dX2_back_20 rfl (lv_at hl 0 rfl) ?_
    refine va_get (D := (dC, dI)) (ci := 1) (v := .int (0 : Int32)) (C := RX2) (T := TX2) (N := 14) hx hb hts h_inX2 hown hK hP 0 rfl rfl 13 (by decide) k_1 (fun _ h9 => h9) rfl dX2_back_21 ?_
    refine lv_if_eq (tgt := 29) hx hb dX2_back_24 (by decide) (fun c_2 => ?_) (fun c_2 => ?_)
    · skip
      refine lv_aload_n hx hb dX2_back_29 rfl (lv_at hl 0 rfl) ?_
      refine va_get (D := (dC, dI)) (ci := 1) (v := .ref (a 9)) (C := RX2) (T := TX2) (N := 14) hx hb hts h_inX2 hown hK hP 0 rfl rfl 10 (by decide) k_0 (fun _ h9 => h9) rfl dX2_back_30 ?_
      refine lv_aload_n hx hb dX2_back_33 rfl (lv_at hl 0 rfl) ?_
      refine va_get (D := (dC, dI)) (ci := 1) (v := .ref (a 4)) (C := RX2) (T := TX2) (N := 14) hx hb hts h_inX2 hown hK hP 0 rfl rfl 3 (by decide) k_2 (fun _ h9 => h9) rfl dX2_back_34 ?_
      have hFc := va_free (wc := (wX cI cJ cZ a kd lo hi vl nd so fr tg gn nr mo ma (0 : Int32) sv sd se sh)) hD hS hA [0, 1, 2, 3, 4, 5, 6, 7, 8, 9, 10, 11] rfl
      refine va_calli (va_runV (As := [.ref (a 4)]) (rest := []) ⟨hx, hb, hml, hown, hts⟩ (c_X1_restoreLatest l dC dI cI cJ cZ a kd lo hi vl nd so fr tg gn nr mo ma (0 : Int32) sv sd se sh  hE (held_ne (by assumption)) hsd H.size) (cwV 1 hts gX2_back_X1_restoreLatest rfl rfl rfl (by decide +kernel) ⟨Nat.le_of_ble_eq_true rfl, Nat.le_of_ble_eq_true rfl⟩) (fb_m hK hP hD (va_recv hK hP (ci := 0) (q0 := 9) rfl rfl)) rfl rfl hl.1 rfl (lv_room (Nat.le_of_ble_eq_true rfl)) dX2_back_37 ⟨Nat.zero_le _, Nat.zero_le _⟩) hS (fun q _ h => hFc q h) hFc (fun r_3 u t H1 locs ht hvm hw_3 hB hz1 hk1 hS => ?_)
      obtain ⟨kd_3, lo_3, hi_3, vl_3, nd_3, so_3, fr_3, tg_3, gn_3, nr_3, mo_3, ma_3, fa_3, sv_3, sd_3, se_3, sh_3⟩ := u
      rw [s_rl_eq] at hw_3
      have hw_3 := hw_3.symm
      simp only [Prod.mk.injEq] at hw_3
      obtain ⟨rfl, rfl, rfl, rfl, rfl, rfl, rfl, rfl, rfl, rfl, rfl, rfl, rfl, rfl, rfl, rfl, rfl, rfl⟩ := hw_3
      obtain ⟨hP1, hK1, hD1⟩ := hB
      rw [ht] at hP1
      obtain ⟨hP, hD⟩ := va_join (wr := []) (w1 := (wX cI cJ cZ a kd lo hi ((r_back sv ((se + (sh - (1 : Int32))) - (se + (sh - (1 : Int32))) / (6 : Int32) * (6 : Int32)) (sd ((se + (sh - (1 : Int32))) - (se + (sh - (1 : Int32))) / (6 : Int32) * (6 : Int32)).toNatClampNeg).toNatClampNeg 0 vl 0).2) nd so fr tg gn nr mo ma (0 : Int32) sv sd se (sh - (1 : Int32)))) hP hD [0, 1, 2, 3, 4, 5, 6, 7, 8, 9, 10, 11] [] rfl rfl (by decide) (by decide) hk1 hFc hP1 hD1
      generalize H1 = H at hP hS ⊢
      have hP : va_P (dC, dI) vwCl (wX cI cJ cZ a kd lo hi ((r_back sv ((se + (sh - (1 : Int32))) - (se + (sh - (1 : Int32))) / (6 : Int32) * (6 : Int32)) (sd ((se + (sh - (1 : Int32))) - (se + (sh - (1 : Int32))) / (6 : Int32) * (6 : Int32)).toNatClampNeg).toNatClampNeg 0 vl 0).2) nd so fr tg gn nr mo ma (0 : Int32) sv sd se (sh - (1 : Int32))) H := hP
      have hD : va_D A (wX cI cJ cZ a kd lo hi ((r_back sv ((se + (sh - (1 : Int32))) - (se + (sh - (1 : Int32))) / (6 : Int32) * (6 : Int32)) (sd ((se + (sh - (1 : Int32))) - (se + (sh - (1 : Int32))) / (6 : Int32) * (6 : Int32)).toNatClampNeg).toNatClampNeg 0 vl 0).2) nd so fr tg gn nr mo ma (0 : Int32) sv sd se (sh - (1 : Int32))) := hD
      exact W.iret (v := (r_back sv ((se + (sh - (1 : Int32))) - (se + (sh - (1 : Int32))) / (6 : Int32) * (6 : Int32)) (sd ((se + (sh - (1 : Int32))) - (se + (sh - (1 : Int32))) / (6 : Int32) * (6 : Int32)).toNatClampNeg).toNatClampNeg 0 vl 0).1) hx hb hr (fun t ht hW => ⟨⟨(r_back sv ((se + (sh - (1 : Int32))) - (se + (sh - (1 : Int32))) / (6 : Int32) * (6 : Int32)) (sd ((se + (sh - (1 : Int32))) - (se + (sh - (1 : Int32))) / (6 : Int32) * (6 : Int32)).toNatClampNeg).toNatClampNeg 0 vl 0).1, (kd, lo, hi, (r_back sv ((se + (sh - (1 : Int32))) - (se + (sh - (1 : Int32))) / (6 : Int32) * (6 : Int32)) (sd ((se + (sh - (1 : Int32))) - (se + (sh - (1 : Int32))) / (6 : Int32) * (6 : Int32)).toNatClampNeg).toNatClampNeg 0 vl 0).2, nd, so, fr, tg, gn, nr, mo, ma, (0 : Int32), sv, sd, se, (sh - (1 : Int32))), rfl, (by unfold x_back; rw [if_neg c_1]), by rw [ht]; exact hP, va_K.moved hW.alike hK, hD⟩, hS.F ht⟩) hS.2.2 dX2_back_40
    · skip
      exact absurd (by decide) c_2
  · skip
    refine lv_bipush (v := 7) hx hb dX2_back_11 (by decide) ?_
    refine lv_goto (tgt := 17) hx hb dX2_back_13 (by decide) ?_
    refine va_put (D := (dC, dI)) (ci := 1) (v := .int (7 : Int32)) (ty := .int) (C := RX2) (T := TX2) (N := 14) hx hb hts h_inX2 tyX2 tyX2_ok nmX2 hown hK hP hD hS 0 rfl rfl 13 (by decide) k_1 (fun _ h9 => h9) rfl (by decide +kernel) rfl rfl (Nat.le_of_ble_eq_true rfl) dX2_back_17 (fun H locs hP hD hS => ?_)
    have hP : va_P (dC, dI) vwCl (wX cI cJ cZ a kd lo hi vl nd so fr tg gn nr mo ma (7 : Int32) sv sd se sh) H := hP
    have hD : va_D A (wX cI cJ cZ a kd lo hi vl nd so fr tg gn nr mo ma (7 : Int32) sv sd se sh) := hD
    refine lv_aload_n hx hb dX2_back_20 rfl (lv_at hl 0 rfl) ?_
    refine va_get (D := (dC, dI)) (ci := 1) (v := .int (7 : Int32)) (C := RX2) (T := TX2) (N := 14) hx hb hts h_inX2 hown hK hP 0 rfl rfl 13 (by decide) k_1 (fun _ h9 => h9) rfl dX2_back_21 ?_
    refine lv_if_eq (tgt := 29) hx hb dX2_back_24 (by decide) (fun c_4 => ?_) (fun c_4 => ?_)
    · skip
      exact absurd c_4 (by decide)
    · skip
      refine lv_iconst (v := (-1)) hx hb dX2_back_27 (by decide) ?_
      exact W.iret (v := (-1 : Int32)) hx hb hr (fun t ht hW => ⟨⟨(-1 : Int32), (kd, lo, hi, vl, nd, so, fr, tg, gn, nr, mo, ma, (7 : Int32), sv, sd, se, sh), rfl, (by unfold x_back; rw [if_pos c_1]), by rw [ht]; exact hP, va_K.moved hW.alike hK, hD⟩, hS.F ht⟩) hS.2.2 dX2_back_28
