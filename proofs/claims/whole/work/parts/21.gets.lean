abbrev VS : Type := (Nat → Int64) × (Nat → Int32) × Int32 × Int32 × (Nat → Int64) × (Nat → Int32) × Int32 × Int32
def v_move (nd : Int32) (u : VS) (d : Int32) (v : Int64) : VS := (vp_updL u.1 d.toNatClampNeg v, u.2.1, u.2.2.1 + 1, u.2.2.2.1 + 1, (if u.2.2.1 = 0 then k_sv u.1 u.2.2.2.2.1 u.2.2.2.2.2.2.1 u.2.2.2.2.2.2.2 nd else u.2.2.2.2.1), (if u.2.2.1 = 0 then k_sd u.2.2.2.2.2.1 u.2.2.2.2.2.2.1 u.2.2.2.2.2.2.2 nd else u.2.2.2.2.2.1), (if u.2.2.1 = 0 then k_se u.2.2.2.2.2.2.1 u.2.2.2.2.2.2.2 else u.2.2.2.2.2.2.1), (if u.2.2.1 = 0 then k_sh u.2.2.2.2.2.2.2 else u.2.2.2.2.2.2.2))
def x_step (kd so fr tg : Nat → Int32) (F : VS → Int32 → Int64 → VS) (d : Int32) (i : Nat) (u : VS) : VS :=
  if fr (nI i).toNatClampNeg = d then
    (if u.2.1 (nI i).toNatClampNeg = 0 then F (u.1, upd u.2.1 (nI i).toNatClampNeg 1, u.2.2) (tg (nI i).toNatClampNeg) (x_gift kd u.1 (so (nI i).toNatClampNeg) d (tg (nI i).toNatClampNeg)) else u)
  else u
def x_rods (S : Nat → VS → VS) : Nat → Nat → VS → VS
  | 0, _, u => u
  | n + 1, i, u => x_rods S n (i + 1) (S i u)
def x_fit (kd : Nat → Int32) (lo hi : Nat → Int64) (d : Int32) (v : Int64) : Int64 := n_fitted (kd d.toNatClampNeg) (lo d.toNatClampNeg) (hi d.toNatClampNeg) v
def x_gets (kd : Nat → Int32) (lo hi : Nat → Int64) (nd : Int32) (so fr tg : Nat → Int32) (N : Nat) : Nat → VS → Int32 → Int64 → VS
  | 0, u, d, v => if x_fit kd lo hi d v = u.1 d.toNatClampNeg then u else v_move nd u d (x_fit kd lo hi d v)
  | k + 1, u, d, v => if x_fit kd lo hi d v = u.1 d.toNatClampNeg then u else x_rods (x_step kd so fr tg (x_gets kd lo hi nd so fr tg N k) d) N 0 (v_move nd u d (x_fit kd lo hi d v))
def okV (u : VS) : Prop := okE u.2.2.2.2.2.2.1 u.2.2.2.2.2.2.2
theorem okE_k {se sh : Int32} (h : okE se sh) : okE (k_se se sh) (k_sh sh) := by
  obtain ⟨e, he, rfl⟩ := nI_of2 (M := 5) (n := 5) (by decide) (Int32.not_lt.mpr h.1) h.2.1
  obtain ⟨k, hk, rfl⟩ := nI_of2 (M := 6) (n := 6) (by decide) (Int32.not_lt.mpr h.2.2.1) h.2.2.2
  have e5 : (5 : Int32) = nI 5 := rfl
  have e6 : (6 : Int32) = nI 6 := rfl
  unfold k_se k_sh k_s0
  by_cases h6 : nI k = 6
  · rw [if_pos h6, if_pos h6, h6, nI_1, rem6 (by omega)]
    refine ⟨nI_pos' (by omega), ?_, by decide, by decide⟩
    rw [e5]
    exact nI_le (by omega) (by decide)
  · rw [if_neg h6, if_neg h6, nI_1]
    have hk6 : k ≠ 6 := fun q => h6 (by rw [q, e6])
    refine ⟨nI_pos' (by omega), ?_, nI_pos' (by omega), ?_⟩
    · rw [e5]; exact nI_le (by omega) (by decide)
    · rw [e6]; exact nI_le (by omega) (by decide)
theorem okE_i {c : Prop} [Decidable c] {se sh : Int32} (h : okE se sh) : okE (if c then k_se se sh else se) (if c then k_sh sh else sh) := by
  by_cases hc : c
  · rw [if_pos hc, if_pos hc]; exact okE_k h
  · rw [if_neg hc, if_neg hc]; exact h
theorem okV_move {nd : Int32} {u : VS} {d : Int32} {v : Int64} (h : okV u) : okV (v_move nd u d v) := okE_i h
theorem okV_rods {S : Nat → VS → VS} (hS : ∀ i u, okV u → okV (S i u)) : ∀ (n i : Nat) (u : VS), okV u → okV (x_rods S n i u)
  | 0, _, _, h => h
  | n + 1, i, u, h => okV_rods hS n (i + 1) (S i u) (hS i u h)
theorem okV_gets {kd : Nat → Int32} {lo hi : Nat → Int64} {nd : Int32} {so fr tg : Nat → Int32} {N : Nat} : ∀ (k : Nat) (u : VS) (d : Int32) (v : Int64), okV u → okV (x_gets kd lo hi nd so fr tg N k u d v)
  | 0, u, d, v, h => by
    unfold x_gets
    split
    · exact h
    · exact okV_move h
  | k + 1, u, d, v, h => by
    unfold x_gets
    split
    · exact h
    · refine okV_rods (fun i w hw => ?_) _ _ _ (okV_move h)
      unfold x_step
      split
      · split
        · exact okV_gets k _ _ _ hw
        · exact hw
      · exact hw
abbrev g_tup (kd : Nat → Int32) (lo : Nat → Int64) (hi : Nat → Int64) (nd : Int32) (so : Nat → Int32) (fr : Nat → Int32) (tg : Nat → Int32) (nr : Int32) (fa : Int32) (G : VS) : XS := (kd, lo, hi, G.1, nd, so, fr, tg, G.2.1, nr, G.2.2.1, G.2.2.2.1, fa, G.2.2.2.2.1, G.2.2.2.2.2.1, G.2.2.2.2.2.2.1, G.2.2.2.2.2.2.2)
def GetsMet (l : Launch) (dC : Nat → ClassId) (dI : Nat → Nat → Nat) (cI cJ cZ : ClassId) (a : Nat → Nat) (kd : Nat → Int32) (lo : Nat → Int64) (hi : Nat → Int64) (nd : Int32) (so : Nat → Int32) (fr : Nat → Int32) (tg : Nat → Int32) (nr : Int32) (fa : Int32) (k : Nat) : Prop := ∀ (vl : Nat → Int64) (gn : Nat → Int32) (mo : Int32) (ma : Int32) (sv : Nat → Int64) (sd : Nat → Int32) (se : Int32) (sh : Int32) (p0 : Int32) (p1 : Int64) (hE : okE se sh) (hd : vp_in p0 16) (sz : Nat), Met l yX2_gets wsX2_gets ({ frames := 5 + k, cells := 0, slots := 0, locals := 120 + 27 * k }) (va_Pc [.ref (a 0), .int p0, .long p1, .int (nI (24 - k))] (fun U => U.heap.size = sz ∧ va_P (dC, dI) vwCl (wX cI cJ cZ a kd lo hi vl nd so fr tg gn nr mo ma fa sv sd se sh) U.heap ∧ va_K (dC, dI) vwCl (tA cI cJ cZ) U ∧ va_D (fun _ => True) (wX cI cJ cZ a kd lo hi vl nd so fr tg gn nr mo ma fa sv sd se sh))) (va_Qv (fun (u : XS) => u = g_tup kd lo hi nd so fr tg nr fa (x_gets kd lo hi nd so fr tg nr.toNatClampNeg k (vl, gn, mo, ma, sv, sd, se, sh) p0 p1)) (at_X dC dI cI cJ cZ (va_A (wX cI cJ cZ a kd lo hi vl nd so fr tg gn nr mo ma fa sv sd se sh) sz) a) (va_A (wX cI cJ cZ a kd lo hi vl nd so fr tg gn nr mo ma fa sv sd se sh) sz)) 0 0 (va_A (wX cI cJ cZ a kd lo hi vl nd so fr tg gn nr mo ma fa sv sd se sh) sz)
set_option maxHeartbeats 4000000 in
set_option maxRecDepth 100000 in
theorem gets_loop {p : Program} {l : Launch} {e : Env} {R : Room} {s : State} {m : MethodId} {args : Array Value} {below : List Frame} {meth : Method} {c : Code} {Q : State → Prop} {A : Nat → Prop} {dC : Nat → ClassId} {dI : Nat → Nat → Nat} {cI cJ cZ : ClassId} {a : Nat → Nat} (kd : Nat → Int32) (lo : Nat → Int64) (hi : Nat → Int64) (nd : Int32) (so : Nat → Int32) (fr : Nat → Int32) (tg : Nat → Int32) (nr : Int32) (fa : Int32) (k N : Nat) (p0 p2 : Int32) (p1 f5 : Int64) (RES : VS) (C0 : CallFix p m c cX2_gets 8 s args wsX2_gets RX2) (hA : ∀ q : Nat, s.heap.size ≤ q → A q) (hK : va_K (dC, dI) vwCl (tA cI cJ cZ) s) (hd : vp_in p0 16) (htg : ∀ j, vp_in (tg j) 16) (hN : nr = nI N) (hN24 : N ≤ 24) (hp2 : p2 + 1 = nI (24 - k)) (IH : GetsMet l dC dI cI cJ cZ a kd lo hi nd so fr tg nr fa k) (hR : 5 + k + 1 ≤ R.frames ∧ 120 + 27 * k + 27 ≤ R.locals)
    (hend : ∀ (vl : Nat → Int64) (gn : Nat → Int32) (mo : Int32) (ma : Int32) (sv : Nat → Int64) (sd : Nat → Int32) (se : Int32) (sh : Int32) (H : Heap) (locs : List Loc) (ls : Array Slot), RES = (vl, gn, mo, ma, sv, sd, se, sh) → okE se sh → va_P (dC, dI) vwCl (wX cI cJ cZ a kd lo hi vl nd so fr tg gn nr mo ma fa sv sd se sh) H → va_D A (wX cI cJ cZ a kd lo hi vl nd so fr tg gn nr mo ma fa sv sd se sh) → va_S A s.heap H locs → ls.size = 8 → W p l e R s m args below meth c H locs 0 0 Q (F0 m 133 ls [])) :
    ∀ (n i : Nat) (x7 : Int32) (vl : Nat → Int64) (gn : Nat → Int32) (mo : Int32) (ma : Int32) (sv : Nat → Int64) (sd : Nat → Int32) (se : Int32) (sh : Int32) (H : Heap) (locs : List Loc) (ls : Array Slot), i + n = N → x7 = nI i → okE se sh → RES = x_rods (x_step kd so fr tg (x_gets kd lo hi nd so fr tg nr.toNatClampNeg k) p0) n i (vl, gn, mo, ma, sv, sd, se, sh) → va_P (dC, dI) vwCl (wX cI cJ cZ a kd lo hi vl nd so fr tg gn nr mo ma fa sv sd se sh) H → va_D A (wX cI cJ cZ a kd lo hi vl nd so fr tg gn nr mo ma fa sv sd se sh) → va_S A s.heap H locs → lv_has ls 8 [(7, .int x7), (5, .long f5), (0, .ref (a 0)), (1, .int p0), (2, .long p1), (4, .int p2)] → W p l e R s m args below meth c H locs 0 0 Q (F0 m 55 ls []) := by
  obtain ⟨hx, hb, hml, hown, hts⟩ := C0
  have h_inX2 : ∀ w ∈ wsX20, w ∈ wsX2_gets := fun _ h => List.mem_cons_of_mem _ (List.mem_append_left _ (List.mem_append_right _ h))
  have k_0 := hts (.fieldLink RX2 64 "DetentCabinet" "rodCount" "I") (by decide +kernel)
  have k_1 := hts (.fieldLink RX2 26 "DetentCabinet" "rodFroms" "[I") (by decide +kernel)
  have k_2 := hts (.fieldLink RX2 32 "DetentCabinet" "rodGone" "[Z") (by decide +kernel)
  have k_3 := hts (.fieldLink RX2 29 "DetentCabinet" "rodTos" "[I") (by decide +kernel)
  have k_4 := hts (.fieldLink RX2 23 "DetentCabinet" "rodSorts" "[I") (by decide +kernel)
  intro n
  induction n with
  | zero =>
    intro i x7 vl gn mo ma sv sd se sh H locs ls hin ex hE hres hP hD hS hl
    subst ex
    refine lv_iload hx hb dX2_gets_55 (lv_at hl 0 rfl) ?_
    refine lv_aload_n hx hb dX2_gets_57 rfl (lv_at hl 2 rfl) ?_
    refine va_get (D := (dC, dI)) (ci := 1) (v := .int nr) (C := RX2) (T := TX2) (N := 14) hx hb hts h_inX2 hown hK hP 0 rfl rfl 9 (by decide) k_0 (fun _ h9 => h9) rfl dX2_gets_58 ?_
    refine lv_icmp_ge (tgt := 133) hx hb dX2_gets_61 (by decide) (fun c_1 => ?_) (fun c_1 => ?_)
    · skip
      exact hend vl gn mo ma sv sd se sh H locs ls hres hE hP hD hS hl.1
    · skip
      exact absurd (by rw [hN]; exact nI_le (by omega) (by omega)) c_1
  | succ n ih =>
    intro i x7 vl gn mo ma sv sd se sh H locs ls hin ex hE hres hP hD hS hl
    subst ex
    refine lv_iload hx hb dX2_gets_55 (lv_at hl 0 rfl) ?_
    refine lv_aload_n hx hb dX2_gets_57 rfl (lv_at hl 2 rfl) ?_
    refine va_get (D := (dC, dI)) (ci := 1) (v := .int nr) (C := RX2) (T := TX2) (N := 14) hx hb hts h_inX2 hown hK hP 0 rfl rfl 9 (by decide) k_0 (fun _ h9 => h9) rfl dX2_gets_58 ?_
    refine lv_icmp_ge (tgt := 133) hx hb dX2_gets_61 (by decide) (fun c_1 => ?_) (fun c_1 => ?_)
    · skip
      exact absurd (by rw [hN] at c_1; exact c_1) (nI_ge (by omega) (by omega))
    · skip
      refine lv_aload_n hx hb dX2_gets_64 rfl (lv_at hl 2 rfl) ?_
      refine va_get (D := (dC, dI)) (ci := 1) (v := .ref (a 6)) (C := RX2) (T := TX2) (N := 14) hx hb hts h_inX2 hown hK hP 0 rfl rfl 6 (by decide) k_1 (fun _ h9 => h9) rfl dX2_gets_65 ?_
      refine lv_iload hx hb dX2_gets_68 (lv_at hl 0 rfl) ?_
      refine va_iald hx hb hK hP 6 0 rfl rfl (vp_in_nI (by omega) (by decide)) dX2_gets_70 ?_
      refine lv_iload_n hx hb dX2_gets_71 rfl (lv_at hl 3 rfl) ?_
      refine lv_icmp_ne (tgt := 127) hx hb dX2_gets_72 (by decide) (fun c_2 => ?_) (fun c_2 => ?_)
      · skip
        refine lv_iinc (v := ((nI i) + 1)) (lv' := [(7, .int ((nI i) + 1)), (5, .long f5), (0, .ref (a 0)), (1, .int p0), (2, .long p1), (4, .int p2)]) hx hb dX2_gets_127 hl (k := 0) rfl rfl (by decide) rfl (fun ls hl => ?_)
        refine lv_goto (tgt := 55) hx hb dX2_gets_130 (by decide) ?_
        exact ih (i + 1) _ vl gn mo ma sv sd se sh H locs ls (by omega) (nI_1 i) hE (hres.trans (congrArg (x_rods (x_step kd so fr tg (x_gets kd lo hi nd so fr tg nr.toNatClampNeg k) p0) n (i + 1)) (by unfold x_step; rw [if_neg c_2]))) hP hD hS (lv_sub hl [0, 1, 2, 3, 4, 5] rfl)
      · skip
        refine lv_aload_n hx hb dX2_gets_75 rfl (lv_at hl 2 rfl) ?_
        refine va_get (D := (dC, dI)) (ci := 1) (v := .ref (a 8)) (C := RX2) (T := TX2) (N := 14) hx hb hts h_inX2 hown hK hP 0 rfl rfl 8 (by decide) k_2 (fun _ h9 => h9) rfl dX2_gets_76 ?_
        refine lv_iload hx hb dX2_gets_79 (lv_at hl 0 rfl) ?_
        refine va_zald hx hb hK hP 8 2 rfl rfl (vp_in_nI (by omega) (by decide)) dX2_gets_81 ?_
        refine lv_if_ne (tgt := 127) hx hb dX2_gets_82 (by decide) (fun c_3 => ?_) (fun c_3 => ?_)
        · skip
          refine lv_iinc (v := ((nI i) + 1)) (lv' := [(7, .int ((nI i) + 1)), (5, .long f5), (0, .ref (a 0)), (1, .int p0), (2, .long p1), (4, .int p2)]) hx hb dX2_gets_127 hl (k := 0) rfl rfl (by decide) rfl (fun ls hl => ?_)
          refine lv_goto (tgt := 55) hx hb dX2_gets_130 (by decide) ?_
          exact ih (i + 1) _ vl gn mo ma sv sd se sh H locs ls (by omega) (nI_1 i) hE (hres.trans (congrArg (x_rods (x_step kd so fr tg (x_gets kd lo hi nd so fr tg nr.toNatClampNeg k) p0) n (i + 1)) (by unfold x_step; rw [if_pos c_2, if_neg c_3]))) hP hD hS (lv_sub hl [0, 1, 2, 3, 4, 5] rfl)
        · skip
          refine lv_aload_n hx hb dX2_gets_85 rfl (lv_at hl 2 rfl) ?_
          refine va_get (D := (dC, dI)) (ci := 1) (v := .ref (a 8)) (C := RX2) (T := TX2) (N := 14) hx hb hts h_inX2 hown hK hP 0 rfl rfl 8 (by decide) k_2 (fun _ h9 => h9) rfl dX2_gets_86 ?_
          refine lv_iload hx hb dX2_gets_89 (lv_at hl 0 rfl) ?_
          refine lv_iconst (v := 1) hx hb dX2_gets_91 (by decide) ?_
          refine va_zast hx hb hK hP hD hS 8 2 rfl rfl (vp_in_nI (by omega) (by decide)) dX2_gets_92 (fun H locs hP hD hS => ?_)
          rw [nar_1] at hP hD
          have hP : va_P (dC, dI) vwCl (wX cI cJ cZ a kd lo hi vl nd so fr tg (upd gn (nI i).toNatClampNeg (1 : Int32)) nr mo ma fa sv sd se sh) H := hP
          have hD : va_D A (wX cI cJ cZ a kd lo hi vl nd so fr tg (upd gn (nI i).toNatClampNeg (1 : Int32)) nr mo ma fa sv sd se sh) := hD
          refine lv_aload_n hx hb dX2_gets_93 rfl (lv_at hl 2 rfl) ?_
          refine lv_aload_n hx hb dX2_gets_94 rfl (lv_at hl 2 rfl) ?_
          refine va_get (D := (dC, dI)) (ci := 1) (v := .ref (a 7)) (C := RX2) (T := TX2) (N := 14) hx hb hts h_inX2 hown hK hP 0 rfl rfl 7 (by decide) k_3 (fun _ h9 => h9) rfl dX2_gets_95 ?_
          refine lv_iload hx hb dX2_gets_98 (lv_at hl 0 rfl) ?_
          refine va_iald hx hb hK hP 7 0 rfl rfl (vp_in_nI (by omega) (by decide)) dX2_gets_100 ?_
          refine lv_aload_n hx hb dX2_gets_101 rfl (lv_at hl 2 rfl) ?_
          refine lv_aload_n hx hb dX2_gets_102 rfl (lv_at hl 2 rfl) ?_
          refine va_get (D := (dC, dI)) (ci := 1) (v := .ref (a 5)) (C := RX2) (T := TX2) (N := 14) hx hb hts h_inX2 hown hK hP 0 rfl rfl 5 (by decide) k_4 (fun _ h9 => h9) rfl dX2_gets_103 ?_
          refine lv_iload hx hb dX2_gets_106 (lv_at hl 0 rfl) ?_
          refine va_iald hx hb hK hP 5 0 rfl rfl (vp_in_nI (by omega) (by decide)) dX2_gets_108 ?_
          refine lv_iload_n hx hb dX2_gets_109 rfl (lv_at hl 3 rfl) ?_
          refine lv_aload_n hx hb dX2_gets_110 rfl (lv_at hl 2 rfl) ?_
          refine va_get (D := (dC, dI)) (ci := 1) (v := .ref (a 7)) (C := RX2) (T := TX2) (N := 14) hx hb hts h_inX2 hown hK hP 0 rfl rfl 7 (by decide) k_3 (fun _ h9 => h9) rfl dX2_gets_111 ?_
          refine lv_iload hx hb dX2_gets_114 (lv_at hl 0 rfl) ?_
          refine va_iald hx hb hK hP 7 0 rfl rfl (vp_in_nI (by omega) (by decide)) dX2_gets_116 ?_
          refine cs_l (W.runV (As := [.int (so (nI i).toNatClampNeg), .int p0, .int (tg (nI i).toNatClampNeg)]) (rest := [.int (tg (nI i).toNatClampNeg), .ref (a 0)]) ⟨hx, hb, hml, hown, hts⟩ (c_X2_gift l dC dI cI cJ cZ a kd lo hi vl nd so fr tg (upd gn (nI i).toNatClampNeg (1 : Int32)) nr mo ma fa sv sd se sh (so (nI i).toNatClampNeg) p0 (tg (nI i).toNatClampNeg) hd (htg _)) (cwV 3 hts gX2_gets_X2_gift rfl rfl rfl (by decide +kernel) ⟨by show 4 + 1 ≤ _; have := hR.1; omega, by show 8 + (5 + 11) + 94 ≤ _; have := hR.2; omega⟩) (fb_v hK hP (va_recv hK hP (ci := 1) (q0 := 0) rfl rfl)) rfl rfl hl.1 rfl (lv_room (Nat.le_of_ble_eq_true rfl)) dX2_gets_117 ⟨Nat.zero_le _, Nat.zero_le _⟩) ?_
          refine lv_iload hx hb dX2_gets_120 (lv_at hl 5 rfl) ?_
          refine lv_iconst (v := 1) hx hb dX2_gets_122 (by decide) ?_
          refine lv_iadd hx hb dX2_gets_123 ?_
          have hFc := va_free (wc := (wX cI cJ cZ a kd lo hi vl nd so fr tg (upd gn (nI i).toNatClampNeg (1 : Int32)) nr mo ma fa sv sd se sh)) hD hS hA [0, 1, 2, 3, 4, 5, 6, 7, 8, 9, 10, 11] rfl
          rw [hp2]
          refine va_callv (va_runV (As := [.int (tg (nI i).toNatClampNeg), .long (x_gift kd vl (so (nI i).toNatClampNeg) p0 (tg (nI i).toNatClampNeg)), .int (nI (24 - k))]) (rest := []) ⟨hx, hb, hml, hown, hts⟩ (IH vl (upd gn (nI i).toNatClampNeg (1 : Int32)) mo ma sv sd se sh (tg (nI i).toNatClampNeg) (x_gift kd vl (so (nI i).toNatClampNeg) p0 (tg (nI i).toNatClampNeg)) hE (htg _) H.size) (cwV 3 hts gX2_gets_X2_gets rfl rfl rfl (by decide +kernel) ⟨by show 5 + k + 1 ≤ _; have := hR.1; omega, by show 8 + (8 + 11) + (120 + 27 * k) ≤ _; have := hR.2; omega⟩) (fb_m hK hP hD (va_recv hK hP (ci := 1) (q0 := 0) rfl rfl)) rfl rfl hl.1 rfl (lv_room (Nat.le_of_ble_eq_true rfl)) dX2_gets_124 ⟨Nat.zero_le _, Nat.zero_le _⟩) hS (fun q _ h => hFc q h) hFc (fun u t H1 locs ht hvm hw_4 hB hz1 hk1 hS => ?_)
          obtain ⟨kd_4, lo_4, hi_4, vl_4, nd_4, so_4, fr_4, tg_4, gn_4, nr_4, mo_4, ma_4, fa_4, sv_4, sd_4, se_4, sh_4⟩ := u
          have hw_4 := hw_4.symm
          simp only [Prod.mk.injEq] at hw_4
          obtain ⟨rfl, rfl, rfl, rfl, rfl, rfl, rfl, rfl, rfl, rfl, rfl, rfl, rfl, rfl, rfl, rfl, rfl⟩ := hw_4
          obtain ⟨hP1, hK1, hD1⟩ := hB
          rw [ht] at hP1
          obtain ⟨hP, hD⟩ := va_join (wr := []) (w1 := (wX cI cJ cZ a kd lo hi ((x_gets kd lo hi nd so fr tg nr.toNatClampNeg k (vl, (upd gn (nI i).toNatClampNeg (1 : Int32)), mo, ma, sv, sd, se, sh) (tg (nI i).toNatClampNeg) (x_gift kd vl (so (nI i).toNatClampNeg) p0 (tg (nI i).toNatClampNeg))).1) nd so fr tg ((x_gets kd lo hi nd so fr tg nr.toNatClampNeg k (vl, (upd gn (nI i).toNatClampNeg (1 : Int32)), mo, ma, sv, sd, se, sh) (tg (nI i).toNatClampNeg) (x_gift kd vl (so (nI i).toNatClampNeg) p0 (tg (nI i).toNatClampNeg))).2.1) nr ((x_gets kd lo hi nd so fr tg nr.toNatClampNeg k (vl, (upd gn (nI i).toNatClampNeg (1 : Int32)), mo, ma, sv, sd, se, sh) (tg (nI i).toNatClampNeg) (x_gift kd vl (so (nI i).toNatClampNeg) p0 (tg (nI i).toNatClampNeg))).2.2.1) ((x_gets kd lo hi nd so fr tg nr.toNatClampNeg k (vl, (upd gn (nI i).toNatClampNeg (1 : Int32)), mo, ma, sv, sd, se, sh) (tg (nI i).toNatClampNeg) (x_gift kd vl (so (nI i).toNatClampNeg) p0 (tg (nI i).toNatClampNeg))).2.2.2.1) fa ((x_gets kd lo hi nd so fr tg nr.toNatClampNeg k (vl, (upd gn (nI i).toNatClampNeg (1 : Int32)), mo, ma, sv, sd, se, sh) (tg (nI i).toNatClampNeg) (x_gift kd vl (so (nI i).toNatClampNeg) p0 (tg (nI i).toNatClampNeg))).2.2.2.2.1) ((x_gets kd lo hi nd so fr tg nr.toNatClampNeg k (vl, (upd gn (nI i).toNatClampNeg (1 : Int32)), mo, ma, sv, sd, se, sh) (tg (nI i).toNatClampNeg) (x_gift kd vl (so (nI i).toNatClampNeg) p0 (tg (nI i).toNatClampNeg))).2.2.2.2.2.1) ((x_gets kd lo hi nd so fr tg nr.toNatClampNeg k (vl, (upd gn (nI i).toNatClampNeg (1 : Int32)), mo, ma, sv, sd, se, sh) (tg (nI i).toNatClampNeg) (x_gift kd vl (so (nI i).toNatClampNeg) p0 (tg (nI i).toNatClampNeg))).2.2.2.2.2.2.1) ((x_gets kd lo hi nd so fr tg nr.toNatClampNeg k (vl, (upd gn (nI i).toNatClampNeg (1 : Int32)), mo, ma, sv, sd, se, sh) (tg (nI i).toNatClampNeg) (x_gift kd vl (so (nI i).toNatClampNeg) p0 (tg (nI i).toNatClampNeg))).2.2.2.2.2.2.2))) hP hD [0, 1, 2, 3, 4, 5, 6, 7, 8, 9, 10, 11] [] rfl rfl (by decide) (by decide) hk1 hFc hP1 hD1
          generalize H1 = H at hP hS ⊢
          have hP : va_P (dC, dI) vwCl (wX cI cJ cZ a kd lo hi ((x_gets kd lo hi nd so fr tg nr.toNatClampNeg k (vl, (upd gn (nI i).toNatClampNeg (1 : Int32)), mo, ma, sv, sd, se, sh) (tg (nI i).toNatClampNeg) (x_gift kd vl (so (nI i).toNatClampNeg) p0 (tg (nI i).toNatClampNeg))).1) nd so fr tg ((x_gets kd lo hi nd so fr tg nr.toNatClampNeg k (vl, (upd gn (nI i).toNatClampNeg (1 : Int32)), mo, ma, sv, sd, se, sh) (tg (nI i).toNatClampNeg) (x_gift kd vl (so (nI i).toNatClampNeg) p0 (tg (nI i).toNatClampNeg))).2.1) nr ((x_gets kd lo hi nd so fr tg nr.toNatClampNeg k (vl, (upd gn (nI i).toNatClampNeg (1 : Int32)), mo, ma, sv, sd, se, sh) (tg (nI i).toNatClampNeg) (x_gift kd vl (so (nI i).toNatClampNeg) p0 (tg (nI i).toNatClampNeg))).2.2.1) ((x_gets kd lo hi nd so fr tg nr.toNatClampNeg k (vl, (upd gn (nI i).toNatClampNeg (1 : Int32)), mo, ma, sv, sd, se, sh) (tg (nI i).toNatClampNeg) (x_gift kd vl (so (nI i).toNatClampNeg) p0 (tg (nI i).toNatClampNeg))).2.2.2.1) fa ((x_gets kd lo hi nd so fr tg nr.toNatClampNeg k (vl, (upd gn (nI i).toNatClampNeg (1 : Int32)), mo, ma, sv, sd, se, sh) (tg (nI i).toNatClampNeg) (x_gift kd vl (so (nI i).toNatClampNeg) p0 (tg (nI i).toNatClampNeg))).2.2.2.2.1) ((x_gets kd lo hi nd so fr tg nr.toNatClampNeg k (vl, (upd gn (nI i).toNatClampNeg (1 : Int32)), mo, ma, sv, sd, se, sh) (tg (nI i).toNatClampNeg) (x_gift kd vl (so (nI i).toNatClampNeg) p0 (tg (nI i).toNatClampNeg))).2.2.2.2.2.1) ((x_gets kd lo hi nd so fr tg nr.toNatClampNeg k (vl, (upd gn (nI i).toNatClampNeg (1 : Int32)), mo, ma, sv, sd, se, sh) (tg (nI i).toNatClampNeg) (x_gift kd vl (so (nI i).toNatClampNeg) p0 (tg (nI i).toNatClampNeg))).2.2.2.2.2.2.1) ((x_gets kd lo hi nd so fr tg nr.toNatClampNeg k (vl, (upd gn (nI i).toNatClampNeg (1 : Int32)), mo, ma, sv, sd, se, sh) (tg (nI i).toNatClampNeg) (x_gift kd vl (so (nI i).toNatClampNeg) p0 (tg (nI i).toNatClampNeg))).2.2.2.2.2.2.2)) H := hP
          have hD : va_D A (wX cI cJ cZ a kd lo hi ((x_gets kd lo hi nd so fr tg nr.toNatClampNeg k (vl, (upd gn (nI i).toNatClampNeg (1 : Int32)), mo, ma, sv, sd, se, sh) (tg (nI i).toNatClampNeg) (x_gift kd vl (so (nI i).toNatClampNeg) p0 (tg (nI i).toNatClampNeg))).1) nd so fr tg ((x_gets kd lo hi nd so fr tg nr.toNatClampNeg k (vl, (upd gn (nI i).toNatClampNeg (1 : Int32)), mo, ma, sv, sd, se, sh) (tg (nI i).toNatClampNeg) (x_gift kd vl (so (nI i).toNatClampNeg) p0 (tg (nI i).toNatClampNeg))).2.1) nr ((x_gets kd lo hi nd so fr tg nr.toNatClampNeg k (vl, (upd gn (nI i).toNatClampNeg (1 : Int32)), mo, ma, sv, sd, se, sh) (tg (nI i).toNatClampNeg) (x_gift kd vl (so (nI i).toNatClampNeg) p0 (tg (nI i).toNatClampNeg))).2.2.1) ((x_gets kd lo hi nd so fr tg nr.toNatClampNeg k (vl, (upd gn (nI i).toNatClampNeg (1 : Int32)), mo, ma, sv, sd, se, sh) (tg (nI i).toNatClampNeg) (x_gift kd vl (so (nI i).toNatClampNeg) p0 (tg (nI i).toNatClampNeg))).2.2.2.1) fa ((x_gets kd lo hi nd so fr tg nr.toNatClampNeg k (vl, (upd gn (nI i).toNatClampNeg (1 : Int32)), mo, ma, sv, sd, se, sh) (tg (nI i).toNatClampNeg) (x_gift kd vl (so (nI i).toNatClampNeg) p0 (tg (nI i).toNatClampNeg))).2.2.2.2.1) ((x_gets kd lo hi nd so fr tg nr.toNatClampNeg k (vl, (upd gn (nI i).toNatClampNeg (1 : Int32)), mo, ma, sv, sd, se, sh) (tg (nI i).toNatClampNeg) (x_gift kd vl (so (nI i).toNatClampNeg) p0 (tg (nI i).toNatClampNeg))).2.2.2.2.2.1) ((x_gets kd lo hi nd so fr tg nr.toNatClampNeg k (vl, (upd gn (nI i).toNatClampNeg (1 : Int32)), mo, ma, sv, sd, se, sh) (tg (nI i).toNatClampNeg) (x_gift kd vl (so (nI i).toNatClampNeg) p0 (tg (nI i).toNatClampNeg))).2.2.2.2.2.2.1) ((x_gets kd lo hi nd so fr tg nr.toNatClampNeg k (vl, (upd gn (nI i).toNatClampNeg (1 : Int32)), mo, ma, sv, sd, se, sh) (tg (nI i).toNatClampNeg) (x_gift kd vl (so (nI i).toNatClampNeg) p0 (tg (nI i).toNatClampNeg))).2.2.2.2.2.2.2)) := hD
          refine lv_iinc (v := ((nI i) + 1)) (lv' := [(7, .int ((nI i) + 1)), (5, .long f5), (0, .ref (a 0)), (1, .int p0), (2, .long p1), (4, .int p2)]) hx hb dX2_gets_127 hl (k := 0) rfl rfl (by decide) rfl (fun ls hl => ?_)
          refine lv_goto (tgt := 55) hx hb dX2_gets_130 (by decide) ?_
          exact ih (i + 1) _ ((x_gets kd lo hi nd so fr tg nr.toNatClampNeg k (vl, (upd gn (nI i).toNatClampNeg (1 : Int32)), mo, ma, sv, sd, se, sh) (tg (nI i).toNatClampNeg) (x_gift kd vl (so (nI i).toNatClampNeg) p0 (tg (nI i).toNatClampNeg))).1) ((x_gets kd lo hi nd so fr tg nr.toNatClampNeg k (vl, (upd gn (nI i).toNatClampNeg (1 : Int32)), mo, ma, sv, sd, se, sh) (tg (nI i).toNatClampNeg) (x_gift kd vl (so (nI i).toNatClampNeg) p0 (tg (nI i).toNatClampNeg))).2.1) ((x_gets kd lo hi nd so fr tg nr.toNatClampNeg k (vl, (upd gn (nI i).toNatClampNeg (1 : Int32)), mo, ma, sv, sd, se, sh) (tg (nI i).toNatClampNeg) (x_gift kd vl (so (nI i).toNatClampNeg) p0 (tg (nI i).toNatClampNeg))).2.2.1) ((x_gets kd lo hi nd so fr tg nr.toNatClampNeg k (vl, (upd gn (nI i).toNatClampNeg (1 : Int32)), mo, ma, sv, sd, se, sh) (tg (nI i).toNatClampNeg) (x_gift kd vl (so (nI i).toNatClampNeg) p0 (tg (nI i).toNatClampNeg))).2.2.2.1) ((x_gets kd lo hi nd so fr tg nr.toNatClampNeg k (vl, (upd gn (nI i).toNatClampNeg (1 : Int32)), mo, ma, sv, sd, se, sh) (tg (nI i).toNatClampNeg) (x_gift kd vl (so (nI i).toNatClampNeg) p0 (tg (nI i).toNatClampNeg))).2.2.2.2.1) ((x_gets kd lo hi nd so fr tg nr.toNatClampNeg k (vl, (upd gn (nI i).toNatClampNeg (1 : Int32)), mo, ma, sv, sd, se, sh) (tg (nI i).toNatClampNeg) (x_gift kd vl (so (nI i).toNatClampNeg) p0 (tg (nI i).toNatClampNeg))).2.2.2.2.2.1) ((x_gets kd lo hi nd so fr tg nr.toNatClampNeg k (vl, (upd gn (nI i).toNatClampNeg (1 : Int32)), mo, ma, sv, sd, se, sh) (tg (nI i).toNatClampNeg) (x_gift kd vl (so (nI i).toNatClampNeg) p0 (tg (nI i).toNatClampNeg))).2.2.2.2.2.2.1) ((x_gets kd lo hi nd so fr tg nr.toNatClampNeg k (vl, (upd gn (nI i).toNatClampNeg (1 : Int32)), mo, ma, sv, sd, se, sh) (tg (nI i).toNatClampNeg) (x_gift kd vl (so (nI i).toNatClampNeg) p0 (tg (nI i).toNatClampNeg))).2.2.2.2.2.2.2) H locs ls (by omega) (nI_1 i) (okV_gets k (vl, upd gn (nI i).toNatClampNeg 1, mo, ma, sv, sd, se, sh) _ _ hE) (hres.trans (congrArg (x_rods (x_step kd so fr tg (x_gets kd lo hi nd so fr tg nr.toNatClampNeg k) p0) n (i + 1)) (by unfold x_step; rw [if_pos c_2, if_pos c_3]))) hP hD hS (lv_sub hl [0, 1, 2, 3, 4, 5] rfl)
