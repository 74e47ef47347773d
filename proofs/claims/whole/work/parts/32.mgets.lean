theorem up_all {P : Int32 → Prop} {f : Nat → Int32} {k D : Nat} {x : Int32} (hk : k = D) (hf : ∀ j, j < D → P (f j)) (hx : P x) : ∀ j, j < D + 1 → P (upd f k x j) := by
  intro j hj
  by_cases h : j = k
  · subst h
    rw [pk_us]
    exact hx
  · rw [pk_un h]
    exact hf j (by omega)
theorem up_lt {P : Int32 → Prop} {f : Nat → Int32} {k D : Nat} {x : Int32} (hk : k = D) (hf : ∀ j, j < D → P (f j)) : ∀ j, j < D → P (upd f k x j) := by
  intro j hj
  rw [pk_un (by omega)]
  exact hf j hj
section RUN2
variable {kd : Nat → Int32} {lo hi : Nat → Int64} {so fr tg : Nat → Int32} {N : Nat}
theorem t_case_same {op nx : Nat → Int32} {D r0 r k : Nat} {v : Int32} {u : VT} (hr0 : nx D = nI r0) (hr : r < N) (hN : N ≤ 24) (hle : r0 ≤ r) (hno : ∀ j, r0 ≤ j → j < r → ¬ (fr (nI j).toNatClampNeg = op D ∧ u.2.1 (nI j).toNatClampNeg = 0)) (hf : fr (nI r).toNatClampNeg = op D) (hg : u.2.1 (nI r).toNatClampNeg = 0) (hk : k = D) (hv : v = nI (r + 1))
    (hc : m_fitted kd lo hi (tg (nI r).toNatClampNeg) (m_gives kd u.1 (so (nI r).toNatClampNeg) (op D) (tg (nI r).toNatClampNeg)) = u.1 (tg (nI r).toNatClampNeg).toNatClampNeg) :
    t_run kd lo hi so fr tg N op nx (D + 1) u = t_run kd lo hi so fr tg N op (upd nx k v) (D + 1) (u.1, upd u.2.1 (nI r).toNatClampNeg 1, u.2.2) := by
  rw [t_next hr0 hr hN hle hno hf hg, t_back hk hv (by omega)]
  rw [t_same (u := (u.1, upd u.2.1 (nI r).toNatClampNeg 1, u.2.2)) hc]
theorem t_case_push {op nx : Nat → Int32} {D r0 r k k1 k2 : Nat} {v z : Int32} {u : VT} (hr0 : nx D = nI r0) (hr : r < N) (hN : N ≤ 24) (hD : D < 24) (hle : r0 ≤ r) (hno : ∀ j, r0 ≤ j → j < r → ¬ (fr (nI j).toNatClampNeg = op D ∧ u.2.1 (nI j).toNatClampNeg = 0)) (hf : fr (nI r).toNatClampNeg = op D) (hg : u.2.1 (nI r).toNatClampNeg = 0) (hk : k = D) (hv : v = nI (r + 1)) (h1 : k1 = D + 1) (h2 : k2 = D + 1) (hz : z = 0)
    (hc : ¬ m_fitted kd lo hi (tg (nI r).toNatClampNeg) (m_gives kd u.1 (so (nI r).toNatClampNeg) (op D) (tg (nI r).toNatClampNeg)) = u.1 (tg (nI r).toNatClampNeg).toNatClampNeg) :
    t_run kd lo hi so fr tg N op nx (D + 1) u = t_run kd lo hi so fr tg N (upd op k1 (tg (nI r).toNatClampNeg)) (upd (upd nx k v) k2 z) (D + 1 + 1) (t_move (u.1, upd u.2.1 (nI r).toNatClampNeg 1, u.2.2) (tg (nI r).toNatClampNeg) (m_fitted kd lo hi (tg (nI r).toNatClampNeg) (m_gives kd u.1 (so (nI r).toNatClampNeg) (op D) (tg (nI r).toNatClampNeg)))) := by
  rw [t_next hr0 hr hN hle hno hf hg, t_push h1 h2 hz, t_back hk hv (by omega)]
  refine congrArg (fun w => t_run kd lo hi so fr tg N op nx D (t_rods _ (N - (r + 1)) (r + 1) w)) ?_
  have e : 24 - D = (24 - (D + 1)) + 1 := by omega
  rw [e]
  exact t_succ (u := (u.1, upd u.2.1 (nI r).toNatClampNeg 1, u.2.2)) hc
end RUN2
set_option maxHeartbeats 4000000 in
set_option maxRecDepth 100000 in
theorem mg_scan {p : Program} {l : Launch} {e : Env} {R : Room} {s : State} {m : MethodId} {args : Array Value} {below : List Frame} {meth : Method} {c : Code} {Q : State → Prop} {A : Nat → Prop} {dC : Nat → ClassId} {dI : Nat → Nat → Nat} {cI cJ cZ : ClassId} {b : Nat → Nat} (kd : Nat → Int32) (vl : Nat → Int64) (lo : Nat → Int64) (hi : Nat → Int64) (nd : Int32) (so : Nat → Int32) (fr : Nat → Int32) (tg : Nat → Int32) (gn : Nat → Int32) (nr : Int32) (kp : Nat → Int64) (ah : Nat → Int64) (kx : Nat → Int32) (st : Int32) (mo : Int32) (ma : Int32) (fa : Int32) (op : Nat → Int32) (nx : Nat → Int32) (N r0 : Nat) (x4 x5 p0 : Int32) (p1 : Int64) (H : Heap) (locs : List Loc) (C0 : CallFix p m c cX3_gets 7 s args wsX3_gets RX3) (hK : va_K (dC, dI) vwCl (tA cI cJ cZ) s) (hN : nr = nI N) (hN24 : N ≤ 24) (hP : va_P (dC, dI) vwCl (wM cI cJ cZ b kd vl lo hi nd so fr tg gn nr kp ah kx st mo ma fa op nx) H) (hend : ∀ (r : Nat) (ls : Array Slot), r ≤ N → r0 ≤ r → (∀ j, r0 ≤ j → j < r → ¬ (fr (nI j).toNatClampNeg = x5 ∧ gn (nI j).toNatClampNeg = 0)) → (r = N ∨ (r < N ∧ fr (nI r).toNatClampNeg = x5 ∧ gn (nI r).toNatClampNeg = 0)) → lv_has ls 7 [(6, .int (nI r)), (5, .int x5), (4, .int x4), (0, .ref (b 0)), (1, .int p0), (2, .long p1)] → W p l e R s m args below meth c H locs 0 0 Q (F0 m 91 ls [])) :
    ∀ (n r : Nat) (x6 : Int32) (ls : Array Slot), r + n = N → r0 ≤ r → (∀ j, r0 ≤ j → j < r → ¬ (fr (nI j).toNatClampNeg = x5 ∧ gn (nI j).toNatClampNeg = 0)) → x6 = nI r → lv_has ls 7 [(6, .int x6), (5, .int x5), (4, .int x4), (0, .ref (b 0)), (1, .int p0), (2, .long p1)] → W p l e R s m args below meth c H locs 0 0 Q (F0 m 54 ls []) := by
  obtain ⟨hx, hb, hml, hown, hts⟩ := C0
  have h_inX3 : ∀ w ∈ wsX30, w ∈ wsX3_gets := fun _ h => List.mem_cons_of_mem _ (List.mem_append_right _ h)
  have k_0 := hts (.fieldLink RX3 126 "DetentCabinetModel" "rods" "I") (by decide +kernel)
  have k_1 := hts (.fieldLink RX3 26 "DetentCabinetModel" "from" "[I") (by decide +kernel)
  have k_2 := hts (.fieldLink RX3 32 "DetentCabinetModel" "gone" "[Z") (by decide +kernel)
  intro n
  induction n with
  | zero =>
    intro r x6 ls hin h0r hno ex hl
    subst ex
    have hin9 : r = N := hin
    refine lv_iload hx hb dX3_gets_54 (lv_at hl 0 rfl) ?_
    refine lv_aload_n hx hb dX3_gets_56 rfl (lv_at hl 3 rfl) ?_
    refine va_get (D := (dC, dI)) (ci := 2) (v := .int nr) (C := RX3) (T := TX3) (N := 19) hx hb hts h_inX3 hown hK hP 0 rfl rfl 9 (by decide) k_0 (fun _ h9 => h9) rfl dX3_gets_57 ?_
    refine lv_icmp_ge (tgt := 91) hx hb dX3_gets_60 (by decide) (fun c_1 => ?_) (fun c_1 => ?_)
    · skip
      exact hend r ls (by omega) h0r hno (Or.inl hin9) (lv_sub hl [0, 1, 2, 3, 4, 5] rfl)
    · skip
      exact absurd (by rw [hN]; exact nI_le (by omega) (by omega)) c_1
  | succ n ih =>
    intro r x6 ls hin h0r hno ex hl
    subst ex
    refine lv_iload hx hb dX3_gets_54 (lv_at hl 0 rfl) ?_
    refine lv_aload_n hx hb dX3_gets_56 rfl (lv_at hl 3 rfl) ?_
    refine va_get (D := (dC, dI)) (ci := 2) (v := .int nr) (C := RX3) (T := TX3) (N := 19) hx hb hts h_inX3 hown hK hP 0 rfl rfl 9 (by decide) k_0 (fun _ h9 => h9) rfl dX3_gets_57 ?_
    refine lv_icmp_ge (tgt := 91) hx hb dX3_gets_60 (by decide) (fun c_1 => ?_) (fun c_1 => ?_)
    · skip
      exact absurd (by rw [hN] at c_1; exact c_1) (nI_ge (by omega) (by omega))
    · skip
      refine lv_aload_n hx hb dX3_gets_63 rfl (lv_at hl 3 rfl) ?_
      refine va_get (D := (dC, dI)) (ci := 2) (v := .ref (b 6)) (C := RX3) (T := TX3) (N := 19) hx hb hts h_inX3 hown hK hP 0 rfl rfl 6 (by decide) k_1 (fun _ h9 => h9) rfl dX3_gets_64 ?_
      refine lv_iload hx hb dX3_gets_67 (lv_at hl 0 rfl) ?_
      refine va_iald hx hb hK hP 6 0 rfl rfl (vp_in_nI (by omega) (by decide)) dX3_gets_69 ?_
      refine lv_iload hx hb dX3_gets_70 (lv_at hl 1 rfl) ?_
      refine lv_icmp_ne (tgt := 85) hx hb dX3_gets_72 (by decide) (fun c_2 => ?_) (fun c_2 => ?_)
      · skip
        refine lv_iinc (v := ((nI r) + 1)) (lv' := [(6, .int ((nI r) + 1)), (5, .int x5), (4, .int x4), (0, .ref (b 0)), (1, .int p0), (2, .long p1)]) hx hb dX3_gets_85 hl (k := 0) rfl rfl (by decide) rfl (fun ls hl => ?_)
        refine lv_goto (tgt := 54) hx hb dX3_gets_88 (by decide) ?_
        exact ih (r + 1) _ ls (by omega) (by omega) (fun j h1 h2 => by
          by_cases hj : j = r
          · subst hj; exact fun q => c_2 q.1
          · exact hno j h1 (by omega)) (nI_1 r) (lv_sub hl [0, 1, 2, 3, 4, 5] rfl)
      · skip
        refine lv_aload_n hx hb dX3_gets_75 rfl (lv_at hl 3 rfl) ?_
        refine va_get (D := (dC, dI)) (ci := 2) (v := .ref (b 8)) (C := RX3) (T := TX3) (N := 19) hx hb hts h_inX3 hown hK hP 0 rfl rfl 8 (by decide) k_2 (fun _ h9 => h9) rfl dX3_gets_76 ?_
        refine lv_iload hx hb dX3_gets_79 (lv_at hl 0 rfl) ?_
        refine va_zald hx hb hK hP 8 2 rfl rfl (vp_in_nI (by omega) (by decide)) dX3_gets_81 ?_
        refine lv_if_eq (tgt := 91) hx hb dX3_gets_82 (by decide) (fun c_3 => ?_) (fun c_3 => ?_)
        · skip
          exact hend r ls (by omega) h0r hno (Or.inr ⟨by omega, c_2, c_3⟩) (lv_sub hl [0, 1, 2, 3, 4, 5] rfl)
        · skip
          refine lv_iinc (v := ((nI r) + 1)) (lv' := [(6, .int ((nI r) + 1)), (5, .int x5), (4, .int x4), (0, .ref (b 0)), (1, .int p0), (2, .long p1)]) hx hb dX3_gets_85 hl (k := 0) rfl rfl (by decide) rfl (fun ls hl => ?_)
          refine lv_goto (tgt := 54) hx hb dX3_gets_88 (by decide) ?_
          exact ih (r + 1) _ ls (by omega) (by omega) (fun j h1 h2 => by
            by_cases hj : j = r
            · subst hj; exact fun q => c_3 q.2
            · exact hno j h1 (by omega)) (nI_1 r) (lv_sub hl [0, 1, 2, 3, 4, 5] rfl)
set_option maxHeartbeats 4000000 in
set_option maxRecDepth 100000 in
theorem mg_loop {p : Program} {l : Launch} {e : Env} {R : Room} {s : State} {m : MethodId} {args : Array Value} {below : List Frame} {meth : Method} {c : Code} {Q : State → Prop} {A : Nat → Prop} {dC : Nat → ClassId} {dI : Nat → Nat → Nat} {cI cJ cZ : ClassId} {b : Nat → Nat} (kd : Nat → Int32) (lo : Nat → Int64) (hi : Nat → Int64) (nd : Int32) (so : Nat → Int32) (fr : Nat → Int32) (tg : Nat → Int32) (nr : Int32) (kp : Nat → Int64) (ah : Nat → Int64) (kx : Nat → Int32) (st : Int32) (ma : Int32) (fa : Int32) (N : Nat) (p0 : Int32) (p1 : Int64) (RES : VT) (C0 : CallFix p m c cX3_gets 7 s args wsX3_gets RX3) (hA : ∀ q : Nat, s.heap.size ≤ q → A q) (hK : va_K (dC, dI) vwCl (tA cI cJ cZ) s) (htg : ∀ j, vp_in (tg j) 16) (hN : nr = nI N) (hN24 : N ≤ 24) (hR : 6 ≤ R.frames ∧ 143 ≤ R.locals) (hend : ∀ (vl : Nat → Int64) (gn : Nat → Int32) (mo : Int32) (op : Nat → Int32) (nx : Nat → Int32) (H : Heap) (locs : List Loc) (ls : Array Slot), RES = (vl, gn, mo) → va_P (dC, dI) vwCl (wM cI cJ cZ b kd vl lo hi nd so fr tg gn nr kp ah kx st mo ma fa op nx) H → va_D A (wM cI cJ cZ b kd vl lo hi nd so fr tg gn nr kp ah kx st mo ma fa op nx) → va_S A s.heap H locs → ls.size = 7 → W p l e R s m args below meth c H locs 0 0 Q (F0 m 189 ls [])) :
    ∀ (n D : Nat) (x4 : Int32) (vl : Nat → Int64) (gn : Nat → Int32) (mo : Int32) (op : Nat → Int32) (nx : Nat → Int32) (H : Heap) (locs : List Loc) (ls : Array Slot), 2 * (N - cnt gn N) + D < n → D ≤ 1 + cnt gn N → (∀ j, j < D → vp_in (op j) 16) → (∀ j, j < D → ∃ r, r ≤ N ∧ nx j = nI r) → x4 = nI D → RES = t_run kd lo hi so fr tg N op nx D (vl, gn, mo) → va_P (dC, dI) vwCl (wM cI cJ cZ b kd vl lo hi nd so fr tg gn nr kp ah kx st mo ma fa op nx) H → va_D A (wM cI cJ cZ b kd vl lo hi nd so fr tg gn nr kp ah kx st mo ma fa op nx) → va_S A s.heap H locs → lv_has ls 7 [(4, .int x4), (0, .ref (b 0)), (1, .int p0), (2, .long p1)] → W p l e R s m args below meth c H locs 0 0 Q (F0 m 27 ls []) := by
  obtain ⟨hx, hb, hml, hown, hts⟩ := C0
  have h_inX3 : ∀ w ∈ wsX30, w ∈ wsX3_gets := fun _ h => List.mem_cons_of_mem _ (List.mem_append_right _ h)
  have k_0 := hts (.fieldLink RX3 45 "DetentCabinetModel" "open" "[I") (by decide +kernel)
  have k_1 := hts (.fieldLink RX3 48 "DetentCabinetModel" "nextRod" "[I") (by decide +kernel)
  have k_2 := hts (.fieldLink RX3 126 "DetentCabinetModel" "rods" "I") (by decide +kernel)
  have k_3 := hts (.fieldLink RX3 32 "DetentCabinetModel" "gone" "[Z") (by decide +kernel)
  have k_4 := hts (.fieldLink RX3 29 "DetentCabinetModel" "to" "[I") (by decide +kernel)
  have k_5 := hts (.fieldLink RX3 23 "DetentCabinetModel" "sort" "[I") (by decide +kernel)
  intro n
  induction n with
  | zero =>
    intro D x4 vl gn mo op nx H locs ls h1
    exact absurd h1 (Nat.not_lt_zero _)
  | succ n ih =>
    intro D x4 vl gn mo op nx H locs ls hmu hDc hop hnx ex hres hP hD hS hl
    have hcl := cnt_le gn N
    subst ex
    cases D with
    | zero =>
      refine lv_iload hx hb dX3_gets_27 (lv_at hl 0 rfl) ?_
      refine lv_if_le (tgt := 189) hx hb dX3_gets_29 (by decide) (fun c_1 => ?_) (fun c_1 => ?_)
      · skip
        exact hend vl gn mo op nx H locs ls hres hP hD hS hl.1
      · skip
        exact absurd (by decide) c_1
    | succ D =>
      have hk : (nI (D + 1) - (1 : Int32)).toNatClampNeg = D := by rw [nI_pred, nI_clamp (by omega)]
      have hkD : (nI (D + 1)).toNatClampNeg = D + 1 := nI_clamp (by omega)
      obtain ⟨r0, hr0N, hr0⟩ := hnx D (by omega)
      refine lv_iload hx hb dX3_gets_27 (lv_at hl 0 rfl) ?_
      refine lv_if_le (tgt := 189) hx hb dX3_gets_29 (by decide) (fun c_1 => ?_) (fun c_1 => ?_)
      · skip
        exact absurd c_1 (nI_nle (by omega) (by omega))
      · skip
        refine lv_aload_n hx hb dX3_gets_32 rfl (lv_at hl 1 rfl) ?_
        refine va_get (D := (dC, dI)) (ci := 2) (v := .ref (b 12)) (C := RX3) (T := TX3) (N := 19) hx hb hts h_inX3 hown hK hP 0 rfl rfl 17 (by decide) k_0 (fun _ h9 => h9) rfl dX3_gets_33 ?_
        refine lv_iload hx hb dX3_gets_36 (lv_at hl 0 rfl) ?_
        refine lv_iconst (v := 1) hx hb dX3_gets_38 (by decide) ?_
        refine lv_isub hx hb dX3_gets_39 ?_
        refine va_iald hx hb hK hP 12 0 rfl rfl (by rw [nI_pred]; exact vp_in_nI (by omega) (by decide)) dX3_gets_40 ?_
        refine W.eq (congrArg (fun z => F0 m 41 ls (.int z :: [])) (show (op ((nI (D + 1)) - (1 : Int32)).toNatClampNeg) = (op D) from (by rw [hk]))) ?_
        refine lv_istore (lv' := [(5, .int (op D)), (4, .int (nI (D + 1))), (0, .ref (b 0)), (1, .int p0), (2, .long p1)]) hx hb dX3_gets_41 hl (by decide) rfl (fun ls hl => ?_)
        refine lv_aload_n hx hb dX3_gets_43 rfl (lv_at hl 2 rfl) ?_
        refine va_get (D := (dC, dI)) (ci := 2) (v := .ref (b 13)) (C := RX3) (T := TX3) (N := 19) hx hb hts h_inX3 hown hK hP 0 rfl rfl 18 (by decide) k_1 (fun _ h9 => h9) rfl dX3_gets_44 ?_
        refine lv_iload hx hb dX3_gets_47 (lv_at hl 1 rfl) ?_
        refine lv_iconst (v := 1) hx hb dX3_gets_49 (by decide) ?_
        refine lv_isub hx hb dX3_gets_50 ?_
        refine va_iald hx hb hK hP 13 0 rfl rfl (by rw [nI_pred]; exact vp_in_nI (by omega) (by decide)) dX3_gets_51 ?_
        refine W.eq (congrArg (fun z => F0 m 52 ls (.int z :: [])) (show (nx ((nI (D + 1)) - (1 : Int32)).toNatClampNeg) = (nI r0) from (by rw [hk, hr0]))) ?_
        refine lv_istore (lv' := [(6, .int (nI r0)), (5, .int (op D)), (4, .int (nI (D + 1))), (0, .ref (b 0)), (1, .int p0), (2, .long p1)]) hx hb dX3_gets_52 hl (by decide) rfl (fun ls hl => ?_)
        refine mg_scan (A := A) kd vl lo hi nd so fr tg gn nr kp ah kx st mo ma fa op nx N r0 _ (op D) p0 p1 H locs ⟨hx, hb, hml, hown, hts⟩ hK hN hN24 hP (fun r ls hr1 hr2 hno hor hl => ?_) (N - r0) r0 _ ls (by omega) (Nat.le_refl _) (fun j h1 h2 => absurd h2 (by omega)) rfl (lv_sub hl [0, 1, 2, 3, 4, 5] rfl)
        refine lv_aload_n hx hb dX3_gets_91 rfl (lv_at hl 3 rfl) ?_
        refine va_get (D := (dC, dI)) (ci := 2) (v := .ref (b 13)) (C := RX3) (T := TX3) (N := 19) hx hb hts h_inX3 hown hK hP 0 rfl rfl 18 (by decide) k_1 (fun _ h9 => h9) rfl dX3_gets_92 ?_
        refine lv_iload hx hb dX3_gets_95 (lv_at hl 2 rfl) ?_
        refine lv_iconst (v := 1) hx hb dX3_gets_97 (by decide) ?_
        refine lv_isub hx hb dX3_gets_98 ?_
        refine lv_iload hx hb dX3_gets_99 (lv_at hl 0 rfl) ?_
        refine lv_iconst (v := 1) hx hb dX3_gets_101 (by decide) ?_
        refine lv_iadd hx hb dX3_gets_102 ?_
        refine va_iast hx hb hK hP hD hS 13 0 rfl rfl (by rw [nI_pred]; exact vp_in_nI (by omega) (by decide)) dX3_gets_103 (fun H locs hP hD hS => ?_)
        have hP : va_P (dC, dI) vwCl (wM cI cJ cZ b kd vl lo hi nd so fr tg gn nr kp ah kx st mo ma fa op (upd nx ((nI (D + 1)) - (1 : Int32)).toNatClampNeg ((nI r) + (1 : Int32)))) H := hP
        have hD : va_D A (wM cI cJ cZ b kd vl lo hi nd so fr tg gn nr kp ah kx st mo ma fa op (upd nx ((nI (D + 1)) - (1 : Int32)).toNatClampNeg ((nI r) + (1 : Int32)))) := hD
        refine lv_iload hx hb dX3_gets_104 (lv_at hl 0 rfl) ?_
        refine lv_aload_n hx hb dX3_gets_106 rfl (lv_at hl 3 rfl) ?_
        refine va_get (D := (dC, dI)) (ci := 2) (v := .int nr) (C := RX3) (T := TX3) (N := 19) hx hb hts h_inX3 hown hK hP 0 rfl rfl 9 (by decide) k_2 (fun _ h9 => h9) rfl dX3_gets_107 ?_
        refine lv_icmp_lt (tgt := 119) hx hb dX3_gets_110 (by decide) (fun c_2 => ?_) (fun c_2 => ?_)
        · skip
          obtain ⟨hlt, hf, hg⟩ : r < N ∧ fr (nI r).toNatClampNeg = op D ∧ gn (nI r).toNatClampNeg = 0 := by
            rcases hor with h | h
            · rw [h, hN] at c_2
              exact absurd c_2 (fun q => Int32.lt_irrefl q)
            · exact h
          have hc1 := cnt_up gn hg N (by rw [nI_clamp (by omega)]; exact hlt)
          have hc2 := cnt_le (upd gn (nI r).toNatClampNeg 1) N
          refine lv_aload_n hx hb dX3_gets_119 rfl (lv_at hl 3 rfl) ?_
          refine va_get (D := (dC, dI)) (ci := 2) (v := .ref (b 8)) (C := RX3) (T := TX3) (N := 19) hx hb hts h_inX3 hown hK hP 0 rfl rfl 8 (by decide) k_3 (fun _ h9 => h9) rfl dX3_gets_120 ?_
          refine lv_iload hx hb dX3_gets_123 (lv_at hl 0 rfl) ?_
          refine lv_iconst (v := 1) hx hb dX3_gets_125 (by decide) ?_
          refine va_zast hx hb hK hP hD hS 8 2 rfl rfl (vp_in_nI (by omega) (by decide)) dX3_gets_126 (fun H locs hP hD hS => ?_)
          rw [nar_1] at hP hD
          have hP : va_P (dC, dI) vwCl (wM cI cJ cZ b kd vl lo hi nd so fr tg (upd gn (nI r).toNatClampNeg (1 : Int32)) nr kp ah kx st mo ma fa op (upd nx ((nI (D + 1)) - (1 : Int32)).toNatClampNeg ((nI r) + (1 : Int32)))) H := hP
          have hD : va_D A (wM cI cJ cZ b kd vl lo hi nd so fr tg (upd gn (nI r).toNatClampNeg (1 : Int32)) nr kp ah kx st mo ma fa op (upd nx ((nI (D + 1)) - (1 : Int32)).toNatClampNeg ((nI r) + (1 : Int32)))) := hD
          refine lv_aload_n hx hb dX3_gets_127 rfl (lv_at hl 3 rfl) ?_
          refine lv_aload_n hx hb dX3_gets_128 rfl (lv_at hl 3 rfl) ?_
          refine va_get (D := (dC, dI)) (ci := 2) (v := .ref (b 7)) (C := RX3) (T := TX3) (N := 19) hx hb hts h_inX3 hown hK hP 0 rfl rfl 7 (by decide) k_4 (fun _ h9 => h9) rfl dX3_gets_129 ?_
          refine lv_iload hx hb dX3_gets_132 (lv_at hl 0 rfl) ?_
          refine va_iald hx hb hK hP 7 0 rfl rfl (vp_in_nI (by omega) (by decide)) dX3_gets_134 ?_
          refine lv_aload_n hx hb dX3_gets_135 rfl (lv_at hl 3 rfl) ?_
          refine lv_aload_n hx hb dX3_gets_136 rfl (lv_at hl 3 rfl) ?_
          refine va_get (D := (dC, dI)) (ci := 2) (v := .ref (b 5)) (C := RX3) (T := TX3) (N := 19) hx hb hts h_inX3 hown hK hP 0 rfl rfl 5 (by decide) k_5 (fun _ h9 => h9) rfl dX3_gets_137 ?_
          refine lv_iload hx hb dX3_gets_140 (lv_at hl 0 rfl) ?_
          refine va_iald hx hb hK hP 5 0 rfl rfl (vp_in_nI (by omega) (by decide)) dX3_gets_142 ?_
          refine lv_iload hx hb dX3_gets_143 (lv_at hl 1 rfl) ?_
          refine lv_aload_n hx hb dX3_gets_145 rfl (lv_at hl 3 rfl) ?_
          refine va_get (D := (dC, dI)) (ci := 2) (v := .ref (b 7)) (C := RX3) (T := TX3) (N := 19) hx hb hts h_inX3 hown hK hP 0 rfl rfl 7 (by decide) k_4 (fun _ h9 => h9) rfl dX3_gets_146 ?_
          refine lv_iload hx hb dX3_gets_149 (lv_at hl 0 rfl) ?_
          refine va_iald hx hb hK hP 7 0 rfl rfl (vp_in_nI (by omega) (by decide)) dX3_gets_151 ?_
          refine cs_l (W.runV (As := [.int (so (nI r).toNatClampNeg), .int (op D), .int (tg (nI r).toNatClampNeg)]) (rest := [.int (tg (nI r).toNatClampNeg), .ref (b 0)]) ⟨hx, hb, hml, hown, hts⟩ (c_X3_gives l dC dI cI cJ cZ b kd vl lo hi nd so fr tg (upd gn (nI r).toNatClampNeg (1 : Int32)) nr kp ah kx st mo ma fa op (upd nx ((nI (D + 1)) - (1 : Int32)).toNatClampNeg ((nI r) + (1 : Int32))) (so (nI r).toNatClampNeg) (op D) (tg (nI r).toNatClampNeg) (hop D (by omega)) (htg _)) (cwV 3 hts gX3_gets_X3_gives rfl rfl rfl (by decide +kernel) ⟨Nat.le_trans (Nat.le_of_ble_eq_true rfl) hR.1, Nat.le_trans (Nat.le_of_ble_eq_true rfl) hR.2⟩) (fb_v hK hP (va_recv hK hP (ci := 2) (q0 := 0) rfl rfl)) rfl rfl hl.1 rfl (lv_room (Nat.le_of_ble_eq_true rfl)) dX3_gets_152 ⟨Nat.zero_le _, Nat.zero_le _⟩) ?_
          have hFc := va_free (wc := (wM cI cJ cZ b kd vl lo hi nd so fr tg (upd gn (nI r).toNatClampNeg (1 : Int32)) nr kp ah kx st mo ma fa op (upd nx ((nI (D + 1)) - (1 : Int32)).toNatClampNeg ((nI r) + (1 : Int32))))) hD hS hA [0, 1, 2, 3, 4, 5, 6, 7, 8, 9, 10, 11, 12, 13] rfl
          refine va_calli (va_runV (As := [.int (tg (nI r).toNatClampNeg), .long (m_gives kd vl (so (nI r).toNatClampNeg) (op D) (tg (nI r).toNatClampNeg))]) (rest := []) ⟨hx, hb, hml, hown, hts⟩ (c_X3_moved l dC dI cI cJ cZ b kd vl lo hi nd so fr tg (upd gn (nI r).toNatClampNeg (1 : Int32)) nr kp ah kx st mo ma fa op (upd nx ((nI (D + 1)) - (1 : Int32)).toNatClampNeg ((nI r) + (1 : Int32))) (tg (nI r).toNatClampNeg) (m_gives kd vl (so (nI r).toNatClampNeg) (op D) (tg (nI r).toNatClampNeg)) (htg _) H.size) (cwV 2 hts gX3_gets_X3_moved rfl rfl rfl (by decide +kernel) ⟨Nat.le_trans (Nat.le_of_ble_eq_true rfl) hR.1, Nat.le_trans (Nat.le_of_ble_eq_true rfl) hR.2⟩) (fb_m hK hP hD (va_recv hK hP (ci := 2) (q0 := 0) rfl rfl)) rfl rfl hl.1 rfl (lv_room (Nat.le_of_ble_eq_true rfl)) dX3_gets_155 ⟨Nat.zero_le _, Nat.zero_le _⟩) hS (fun q _ h => hFc q h) hFc (fun r_3 u t H1 locs ht hvm hw_3 hB hz1 hk1 hS => ?_)
          unfold m_moved at hw_3
          by_cases c_4 : (m_fitted kd lo hi (tg (nI r).toNatClampNeg) (m_gives kd vl (so (nI r).toNatClampNeg) (op D) (tg (nI r).toNatClampNeg))) = (vl (tg (nI r).toNatClampNeg).toNatClampNeg)
          · skip
            rw [if_pos c_4] at hw_3
            obtain ⟨kd_3, vl_3, lo_3, hi_3, nd_3, so_3, fr_3, tg_3, gn_3, nr_3, kp_3, ah_3, kx_3, st_3, mo_3, ma_3, fa_3, op_3, nx_3⟩ := u
            have hw_3 := hw_3.symm
            simp only [Prod.mk.injEq] at hw_3
            obtain ⟨rfl, rfl, rfl, rfl, rfl, rfl, rfl, rfl, rfl, rfl, rfl, rfl, rfl, rfl, rfl, rfl, rfl, rfl, rfl, rfl⟩ := hw_3
            obtain ⟨hP1, hK1, hD1⟩ := hB
            rw [ht] at hP1
            obtain ⟨hP, hD⟩ := va_join (wr := []) (w1 := (wM cI cJ cZ b kd vl lo hi nd so fr tg (upd gn (nI r).toNatClampNeg (1 : Int32)) nr kp ah kx st mo ma fa op (upd nx ((nI (D + 1)) - (1 : Int32)).toNatClampNeg ((nI r) + (1 : Int32))))) hP hD [0, 1, 2, 3, 4, 5, 6, 7, 8, 9, 10, 11, 12, 13] [] rfl rfl (by decide) (by decide) hk1 hFc hP1 hD1
            generalize H1 = H at hP hS ⊢
            have hP : va_P (dC, dI) vwCl (wM cI cJ cZ b kd vl lo hi nd so fr tg (upd gn (nI r).toNatClampNeg (1 : Int32)) nr kp ah kx st mo ma fa op (upd nx ((nI (D + 1)) - (1 : Int32)).toNatClampNeg ((nI r) + (1 : Int32)))) H := hP
            have hD : va_D A (wM cI cJ cZ b kd vl lo hi nd so fr tg (upd gn (nI r).toNatClampNeg (1 : Int32)) nr kp ah kx st mo ma fa op (upd nx ((nI (D + 1)) - (1 : Int32)).toNatClampNeg ((nI r) + (1 : Int32)))) := hD
            refine lv_if_eq (tgt := 186) hx hb dX3_gets_158 (by decide) (fun c_5 => ?_) (fun c_5 => ?_)
            · skip
              refine lv_goto (tgt := 27) hx hb dX3_gets_186 (by decide) ?_
              exact ih (D + 1) _ vl (upd gn (nI r).toNatClampNeg (1 : Int32)) mo op (upd nx ((nI (D + 1)) - (1 : Int32)).toNatClampNeg ((nI r) + (1 : Int32))) H locs ls (by omega) (by omega) hop (up_all (P := fun x => ∃ r, r ≤ N ∧ x = nI r) hk (fun j h => hnx j (by omega)) ⟨r + 1, by omega, nI_1 r⟩) rfl (hres.trans (t_case_same hr0 hlt hN24 hr2 hno hf hg hk (nI_1 r) c_4)) hP hD hS (lv_sub hl [2, 3, 4, 5] rfl)
            · skip
              exact absurd (by decide) c_5
          · skip
            rw [if_neg c_4] at hw_3
            obtain ⟨kd_3, vl_3, lo_3, hi_3, nd_3, so_3, fr_3, tg_3, gn_3, nr_3, kp_3, ah_3, kx_3, st_3, mo_3, ma_3, fa_3, op_3, nx_3⟩ := u
            have hw_3 := hw_3.symm
            simp only [Prod.mk.injEq] at hw_3
            obtain ⟨rfl, rfl, rfl, rfl, rfl, rfl, rfl, rfl, rfl, rfl, rfl, rfl, rfl, rfl, rfl, rfl, rfl, rfl, rfl, rfl⟩ := hw_3
            obtain ⟨hP1, hK1, hD1⟩ := hB
            rw [ht] at hP1
            obtain ⟨hP, hD⟩ := va_join (wr := []) (w1 := (wM cI cJ cZ b kd (vp_updL vl (tg (nI r).toNatClampNeg).toNatClampNeg (m_fitted kd lo hi (tg (nI r).toNatClampNeg) (m_gives kd vl (so (nI r).toNatClampNeg) (op D) (tg (nI r).toNatClampNeg)))) lo hi nd so fr tg (upd gn (nI r).toNatClampNeg (1 : Int32)) nr kp ah kx st (mo + (1 : Int32)) ma fa op (upd nx ((nI (D + 1)) - (1 : Int32)).toNatClampNeg ((nI r) + (1 : Int32))))) hP hD [0, 1, 2, 3, 4, 5, 6, 7, 8, 9, 10, 11, 12, 13] [] rfl rfl (by decide) (by decide) hk1 hFc hP1 hD1
            generalize H1 = H at hP hS ⊢
            have hP : va_P (dC, dI) vwCl (wM cI cJ cZ b kd (vp_updL vl (tg (nI r).toNatClampNeg).toNatClampNeg (m_fitted kd lo hi (tg (nI r).toNatClampNeg) (m_gives kd vl (so (nI r).toNatClampNeg) (op D) (tg (nI r).toNatClampNeg)))) lo hi nd so fr tg (upd gn (nI r).toNatClampNeg (1 : Int32)) nr kp ah kx st (mo + (1 : Int32)) ma fa op (upd nx ((nI (D + 1)) - (1 : Int32)).toNatClampNeg ((nI r) + (1 : Int32)))) H := hP
            have hD : va_D A (wM cI cJ cZ b kd (vp_updL vl (tg (nI r).toNatClampNeg).toNatClampNeg (m_fitted kd lo hi (tg (nI r).toNatClampNeg) (m_gives kd vl (so (nI r).toNatClampNeg) (op D) (tg (nI r).toNatClampNeg)))) lo hi nd so fr tg (upd gn (nI r).toNatClampNeg (1 : Int32)) nr kp ah kx st (mo + (1 : Int32)) ma fa op (upd nx ((nI (D + 1)) - (1 : Int32)).toNatClampNeg ((nI r) + (1 : Int32)))) := hD
            refine lv_if_eq (tgt := 186) hx hb dX3_gets_158 (by decide) (fun c_6 => ?_) (fun c_6 => ?_)
            · skip
              exact absurd c_6 (by decide)
            · skip
              refine lv_aload_n hx hb dX3_gets_161 rfl (lv_at hl 3 rfl) ?_
              refine va_get (D := (dC, dI)) (ci := 2) (v := .ref (b 12)) (C := RX3) (T := TX3) (N := 19) hx hb hts h_inX3 hown hK hP 0 rfl rfl 17 (by decide) k_0 (fun _ h9 => h9) rfl dX3_gets_162 ?_
              refine lv_iload hx hb dX3_gets_165 (lv_at hl 2 rfl) ?_
              refine lv_aload_n hx hb dX3_gets_167 rfl (lv_at hl 3 rfl) ?_
              refine va_get (D := (dC, dI)) (ci := 2) (v := .ref (b 7)) (C := RX3) (T := TX3) (N := 19) hx hb hts h_inX3 hown hK hP 0 rfl rfl 7 (by decide) k_4 (fun _ h9 => h9) rfl dX3_gets_168 ?_
              refine lv_iload hx hb dX3_gets_171 (lv_at hl 0 rfl) ?_
              refine va_iald hx hb hK hP 7 0 rfl rfl (vp_in_nI (by omega) (by decide)) dX3_gets_173 ?_
              refine va_iast hx hb hK hP hD hS 12 0 rfl rfl (vp_in_nI (by omega) (by decide)) dX3_gets_174 (fun H locs hP hD hS => ?_)
              have hP : va_P (dC, dI) vwCl (wM cI cJ cZ b kd (vp_updL vl (tg (nI r).toNatClampNeg).toNatClampNeg (m_fitted kd lo hi (tg (nI r).toNatClampNeg) (m_gives kd vl (so (nI r).toNatClampNeg) (op D) (tg (nI r).toNatClampNeg)))) lo hi nd so fr tg (upd gn (nI r).toNatClampNeg (1 : Int32)) nr kp ah kx st (mo + (1 : Int32)) ma fa (upd op (nI (D + 1)).toNatClampNeg (tg (nI r).toNatClampNeg)) (upd nx ((nI (D + 1)) - (1 : Int32)).toNatClampNeg ((nI r) + (1 : Int32)))) H := hP
              have hD : va_D A (wM cI cJ cZ b kd (vp_updL vl (tg (nI r).toNatClampNeg).toNatClampNeg (m_fitted kd lo hi (tg (nI r).toNatClampNeg) (m_gives kd vl (so (nI r).toNatClampNeg) (op D) (tg (nI r).toNatClampNeg)))) lo hi nd so fr tg (upd gn (nI r).toNatClampNeg (1 : Int32)) nr kp ah kx st (mo + (1 : Int32)) ma fa (upd op (nI (D + 1)).toNatClampNeg (tg (nI r).toNatClampNeg)) (upd nx ((nI (D + 1)) - (1 : Int32)).toNatClampNeg ((nI r) + (1 : Int32)))) := hD
              refine lv_aload_n hx hb dX3_gets_175 rfl (lv_at hl 3 rfl) ?_
              refine va_get (D := (dC, dI)) (ci := 2) (v := .ref (b 13)) (C := RX3) (T := TX3) (N := 19) hx hb hts h_inX3 hown hK hP 0 rfl rfl 18 (by decide) k_1 (fun _ h9 => h9) rfl dX3_gets_176 ?_
              refine lv_iload hx hb dX3_gets_179 (lv_at hl 2 rfl) ?_
              refine lv_iconst (v := 0) hx hb dX3_gets_181 (by decide) ?_
              refine va_iast hx hb hK hP hD hS 13 0 rfl rfl (vp_in_nI (by omega) (by decide)) dX3_gets_182 (fun H locs hP hD hS => ?_)
              have hP : va_P (dC, dI) vwCl (wM cI cJ cZ b kd (vp_updL vl (tg (nI r).toNatClampNeg).toNatClampNeg (m_fitted kd lo hi (tg (nI r).toNatClampNeg) (m_gives kd vl (so (nI r).toNatClampNeg) (op D) (tg (nI r).toNatClampNeg)))) lo hi nd so fr tg (upd gn (nI r).toNatClampNeg (1 : Int32)) nr kp ah kx st (mo + (1 : Int32)) ma fa (upd op (nI (D + 1)).toNatClampNeg (tg (nI r).toNatClampNeg)) (upd (upd nx ((nI (D + 1)) - (1 : Int32)).toNatClampNeg ((nI r) + (1 : Int32))) (nI (D + 1)).toNatClampNeg (0 : Int32))) H := hP
              have hD : va_D A (wM cI cJ cZ b kd (vp_updL vl (tg (nI r).toNatClampNeg).toNatClampNeg (m_fitted kd lo hi (tg (nI r).toNatClampNeg) (m_gives kd vl (so (nI r).toNatClampNeg) (op D) (tg (nI r).toNatClampNeg)))) lo hi nd so fr tg (upd gn (nI r).toNatClampNeg (1 : Int32)) nr kp ah kx st (mo + (1 : Int32)) ma fa (upd op (nI (D + 1)).toNatClampNeg (tg (nI r).toNatClampNeg)) (upd (upd nx ((nI (D + 1)) - (1 : Int32)).toNatClampNeg ((nI r) + (1 : Int32))) (nI (D + 1)).toNatClampNeg (0 : Int32))) := hD
              refine lv_iinc (v := ((nI (D + 1)) + 1)) (lv' := [(4, .int ((nI (D + 1)) + 1)), (6, .int (nI r)), (5, .int (op D)), (0, .ref (b 0)), (1, .int p0), (2, .long p1)]) hx hb dX3_gets_183 hl (k := 2) rfl rfl (by decide) rfl (fun ls hl => ?_)
              refine lv_goto (tgt := 27) hx hb dX3_gets_186 (by decide) ?_
              exact ih (D + 1 + 1) _ (vp_updL vl (tg (nI r).toNatClampNeg).toNatClampNeg (m_fitted kd lo hi (tg (nI r).toNatClampNeg) (m_gives kd vl (so (nI r).toNatClampNeg) (op D) (tg (nI r).toNatClampNeg)))) (upd gn (nI r).toNatClampNeg (1 : Int32)) (mo + (1 : Int32)) (upd op (nI (D + 1)).toNatClampNeg (tg (nI r).toNatClampNeg)) (upd (upd nx ((nI (D + 1)) - (1 : Int32)).toNatClampNeg ((nI r) + (1 : Int32))) (nI (D + 1)).toNatClampNeg (0 : Int32)) H locs ls (by omega) (by omega) (up_all (P := fun x => vp_in x 16) hkD hop (htg _)) (up_all (P := fun x => ∃ r, r ≤ N ∧ x = nI r) hkD (up_all (P := fun x => ∃ r, r ≤ N ∧ x = nI r) hk (fun j h => hnx j (by omega)) ⟨r + 1, by omega, nI_1 r⟩) ⟨0, by omega, nI_0.symm⟩) (nI_1 (D + 1)) (hres.trans (t_case_push hr0 hlt hN24 (by omega) hr2 hno hf hg hk (nI_1 r) hkD hkD rfl c_4)) hP hD hS (lv_sub hl [0, 3, 4, 5] rfl)
        · skip
          have hrN : r = N := by
            rcases hor with h | h
            · exact h
            · exact absurd (by rw [hN]; exact nI_lt h.1 (by omega)) c_2
          refine lv_iinc (v := ((nI (D + 1)) + (-1))) (lv' := [(4, .int ((nI (D + 1)) + (-1))), (6, .int (nI r)), (5, .int (op D)), (0, .ref (b 0)), (1, .int p0), (2, .long p1)]) hx hb dX3_gets_113 hl (k := 2) rfl rfl (by decide) rfl (fun ls hl => ?_)
          refine lv_goto (tgt := 27) hx hb dX3_gets_116 (by decide) ?_
          exact ih D _ vl gn mo op (upd nx ((nI (D + 1)) - (1 : Int32)).toNatClampNeg ((nI r) + (1 : Int32))) H locs ls (by omega) (by omega) (fun j h => hop j (by omega)) (up_lt (P := fun x => ∃ r, r ≤ N ∧ x = nI r) hk (fun j h => hnx j (by omega))) (pk_m1 D) (hres.trans (t_pop hr0 (by omega) (by omega) hk (by rw [← hrN]; exact hno))) hP hD hS (lv_sub hl [0, 3, 4, 5] rfl)
