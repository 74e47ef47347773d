def m_moved (kd : Nat → Int32) (vl : Nat → Int64) (lo : Nat → Int64) (hi : Nat → Int64) (nd : Int32) (so : Nat → Int32) (fr : Nat → Int32) (tg : Nat → Int32) (gn : Nat → Int32) (nr : Int32) (kp : Nat → Int64) (ah : Nat → Int64) (kx : Nat → Int32) (st : Int32) (mo : Int32) (ma : Int32) (fa : Int32) (op : Nat → Int32) (nx : Nat → Int32) (p0 : Int32) (p1 : Int64) : Int32 × MS :=
  if (m_fitted kd lo hi p0 p1) = (vl p0.toNatClampNeg) then ((0 : Int32), kd, vl, lo, hi, nd, so, fr, tg, gn, nr, kp, ah, kx, st, mo, ma, fa, op, nx)
  else ((1 : Int32), kd, (vp_updL vl p0.toNatClampNeg (m_fitted kd lo hi p0 p1)), lo, hi, nd, so, fr, tg, gn, nr, kp, ah, kx, st, (mo + (1 : Int32)), ma, fa, op, nx)
set_option maxHeartbeats 4000000 in
set_option maxRecDepth 100000 in
theorem c_X3_moved (l : Launch) (dC : Nat → ClassId) (dI : Nat → Nat → Nat) (cI cJ cZ : ClassId) (b : Nat → Nat) (kd : Nat → Int32) (vl : Nat → Int64) (lo : Nat → Int64) (hi : Nat → Int64) (nd : Int32) (so : Nat → Int32) (fr : Nat → Int32) (tg : Nat → Int32) (gn : Nat → Int32) (nr : Int32) (kp : Nat → Int64) (ah : Nat → Int64) (kx : Nat → Int32) (st : Int32) (mo : Int32) (ma : Int32) (fa : Int32) (op : Nat → Int32) (nx : Nat → Int32) (p0 : Int32) (p1 : Int64) (hd : vp_in p0 16) (sz : Nat) : Met l yX3_moved wsX3_moved ({ frames := 5, cells := 0, slots := 0, locals := 118 }) (va_Pc [.ref (b 0), .int p0, .long p1] (fun U => U.heap.size = sz ∧ va_P (dC, dI) vwCl (wM cI cJ cZ b kd vl lo hi nd so fr tg gn nr kp ah kx st mo ma fa op nx) U.heap ∧ va_K (dC, dI) vwCl (tA cI cJ cZ) U ∧ va_D (fun _ => True) (wM cI cJ cZ b kd vl lo hi nd so fr tg gn nr kp ah kx st mo ma fa op nx))) (va_Qi (fun (r : Int32) (u : MS) => (r, u) = m_moved kd vl lo hi nd so fr tg gn nr kp ah kx st mo ma fa op nx p0 p1) (at_M dC dI cI cJ cZ (va_A (wM cI cJ cZ b kd vl lo hi nd so fr tg gn nr kp ah kx st mo ma fa op nx) sz) b) (va_A (wM cI cJ cZ b kd vl lo hi nd so fr tg gn nr kp ah kx st mo ma fa op nx) sz)) 0 0 (va_A (wM cI cJ cZ b kd vl lo hi nd so fr tg gn nr kp ah kx st mo ma fa op nx) sz) := by
  refine Met.ofW (cc := cX3_moved) (maxL := 6) (ret := (some .boolean)) (by decide) rfl ?_
  intro p e s m args below meth c s₁ B hml hv
  obtain ⟨rfl, hsz, hP, hK, hD0⟩ := hv
  subst hsz
  have hD := hD0.self (sz := s.heap.size)
  generalize hAe : va_A (wM cI cJ cZ b kd vl lo hi nd so fr tg gn nr kp ah kx st mo ma fa op nx) s.heap.size = A at hD ⊢
  have hA : ∀ q : Nat, s.heap.size ≤ q → A q := fun q h => by rw [← hAe]; exact Or.inr h
  have hS : va_S A s.heap s.heap [] := va_S.rf
  have hP : va_P (dC, dI) vwCl (wM cI cJ cZ b kd vl lo hi nd so fr tg gn nr kp ah kx st mo ma fa op nx) s.heap := hP
  have hx := B.exec
  have hb := B.bytes
  have hr := B.returns
  have hts := atoms_spec (ws := wsX3_moved) B.pre
  have hown : s.vm.findClass RX3 = some m.cls := findClass_of_methodNamed B.named
  have hlocks := B.notSynchronized
  have h_inX3 : ∀ w ∈ wsX30, w ∈ wsX3_moved := fun _ h => List.mem_cons_of_mem _ (List.mem_append_right _ h)
  have k_0 := hts (.fieldLink RX3 13 "DetentCabinetModel" "value" "[J") (by decide +kernel)
  have k_1 := hts (.fieldLink RX3 119 "DetentCabinetModel" "moves" "I") (by decide +kernel)
  have hl := lv_entry ([.ref (b 0), .int p0, .long p1]) (n := 6) (Nat.le_of_ble_eq_true rfl)
  rw [lg_entry_eq]
  generalize (lg_sl ([.ref (b 0), .int p0, .long p1]) ++ List.replicate (6 - (lg_sl ([.ref (b 0), .int p0, .long p1])).length) Slot.unset).toArray = ls at hl ⊢
  have hl : lv_has ls 6 [(0, .ref (b 0)), (1, .int p0), (2, .long p1)] := hl
  refine lv_aload_n hx hb dX3_moved_0 rfl (lv_at hl 0 rfl) ?_
  refine lv_iload_n hx hb dX3_moved_1 rfl (lv_at hl 1 rfl) ?_
  refine lv_lload_n hx hb dX3_moved_2 rfl (lv_at hl 2 rfl) ?_
  refine cs_l (W.runV (As := [.int p0, .long p1]) (rest := []) ⟨hx, hb, hml, hown, hts⟩ (c_X3_fitted l dC dI cI cJ cZ b kd vl lo hi nd so fr tg gn nr kp ah kx st mo ma fa op nx p0 p1 (by assumption)) (cwV 2 hts gX3_moved_X3_fitted rfl rfl rfl (by decide +kernel) ⟨Nat.le_of_ble_eq_true rfl, Nat.le_of_ble_eq_true rfl⟩) (fb_v hK hP (va_recv hK hP (ci := 2) (q0 := 0) rfl rfl)) rfl rfl hl.1 rfl (lv_room (Nat.le_of_ble_eq_true rfl)) dX3_moved_3 ⟨Nat.zero_le _, Nat.zero_le _⟩) ?_
  refine lv_lstore (lv' := [(4, .long (m_fitted kd lo hi p0 p1)), (0, .ref (b 0)), (1, .int p0), (2, .long p1)]) hx hb dX3_moved_6 hl (by decide) rfl (fun ls hl => ?_)
  refine lv_lload hx hb dX3_moved_8 (lv_at hl 0 rfl) ?_
  refine lv_aload_n hx hb dX3_moved_10 rfl (lv_at hl 1 rfl) ?_
  refine va_get (D := (dC, dI)) (ci := 2) (v := .ref (b 2)) (C := RX3) (T := TX3) (N := 19) hx hb hts h_inX3 hown hK hP 0 rfl rfl 1 (by decide) k_0 (fun _ h9 => h9) rfl dX3_moved_11 ?_
  refine lv_iload_n hx hb dX3_moved_14 rfl (lv_at hl 2 rfl) ?_
  refine va_lald hx hb hK hP 2 1 rfl rfl (by assumption) dX3_moved_15 ?_
  refine W.lcmp hx hb dX3_moved_16 ?_
  refine lv_if_ne (tgt := 22) hx hb dX3_moved_17 (by decide) (fun c_1 => ?_) (fun c_1 => ?_)
  · skip
    have c_1 : ¬ ((m_fitted kd lo hi p0 p1) = (vl p0.toNatClampNeg)) := fun h => c_1 ((lg_cmp_eq _ _).mpr h)
    refine lv_aload_n hx hb dX3_moved_22 rfl (lv_at hl 1 rfl) ?_
    refine va_get (D := (dC, dI)) (ci := 2) (v := .ref (b 2)) (C := RX3) (T := TX3) (N := 19) hx hb hts h_inX3 hown hK hP 0 rfl rfl 1 (by decide) k_0 (fun _ h9 => h9) rfl dX3_moved_23 ?_
    refine lv_iload_n hx hb dX3_moved_26 rfl (lv_at hl 2 rfl) ?_
    refine lv_lload hx hb dX3_moved_27 (lv_at hl 0 rfl) ?_
    refine va_last hx hb hK hP hD hS 2 1 rfl rfl (by assumption) dX3_moved_29 (fun H locs hP hD hS => ?_)
    have hP : va_P (dC, dI) vwCl (wM cI cJ cZ b kd (vp_updL vl p0.toNatClampNeg (m_fitted kd lo hi p0 p1)) lo hi nd so fr tg gn nr kp ah kx st mo ma fa op nx) H := hP
    have hD : va_D A (wM cI cJ cZ b kd (vp_updL vl p0.toNatClampNeg (m_fitted kd lo hi p0 p1)) lo hi nd so fr tg gn nr kp ah kx st mo ma fa op nx) := hD
    refine lv_aload_n hx hb dX3_moved_30 rfl (lv_at hl 1 rfl) ?_
    refine lv_dup hx hb dX3_moved_31 rfl ?_
    refine va_get (D := (dC, dI)) (ci := 2) (v := .int mo) (C := RX3) (T := TX3) (N := 19) hx hb hts h_inX3 hown hK hP 0 rfl rfl 14 (by decide) k_1 (fun _ h9 => h9) rfl dX3_moved_32 ?_
    refine lv_iconst (v := 1) hx hb dX3_moved_35 (by decide) ?_
    refine lv_iadd hx hb dX3_moved_36 ?_
    refine va_put (D := (dC, dI)) (ci := 2) (v := .int (mo + (1 : Int32))) (ty := .int) (C := RX3) (T := TX3) (N := 19) hx hb hts h_inX3 tyX3 tyX3_ok nmX3 hown hK hP hD hS 0 rfl rfl 14 (by decide) k_1 (fun _ h9 => h9) rfl (by decide +kernel) rfl rfl (Nat.le_of_ble_eq_true rfl) dX3_moved_37 (fun H locs hP hD hS => ?_)
    have hP : va_P (dC, dI) vwCl (wM cI cJ cZ b kd (vp_updL vl p0.toNatClampNeg (m_fitted kd lo hi p0 p1)) lo hi nd so fr tg gn nr kp ah kx st (mo + (1 : Int32)) ma fa op nx) H := hP
    have hD : va_D A (wM cI cJ cZ b kd (vp_updL vl p0.toNatClampNeg (m_fitted kd lo hi p0 p1)) lo hi nd so fr tg gn nr kp ah kx st (mo + (1 : Int32)) ma fa op nx) := hD
    refine lv_iconst (v := 1) hx hb dX3_moved_40 (by decide) ?_
    exact W.zret (v := (1 : Int32)) hx hb hr (by first | rfl | decide | assumption) (fun t ht hW => ⟨⟨(1 : Int32), (kd, (vp_updL vl p0.toNatClampNeg (m_fitted kd lo hi p0 p1)), lo, hi, nd, so, fr, tg, gn, nr, kp, ah, kx, st, (mo + (1 : Int32)), ma, fa, op, nx), rfl, (by unfold m_moved; rw [if_neg c_1]), by rw [ht]; exact hP, va_K.moved hW.alike hK, hD⟩, hS.F ht⟩) hS.2.2 dX3_moved_41
  · skip
    have c_1 : (m_fitted kd lo hi p0 p1) = (vl p0.toNatClampNeg) := (lg_cmp_eq _ _).mp c_1
    refine lv_iconst (v := 0) hx hb dX3_moved_20 (by decide) ?_
    exact W.zret (v := (0 : Int32)) hx hb hr (by first | rfl | decide | assumption) (fun t ht hW => ⟨⟨(0 : Int32), (kd, vl, lo, hi, nd, so, fr, tg, gn, nr, kp, ah, kx, st, mo, ma, fa, op, nx), rfl, (by unfold m_moved; rw [if_pos c_1]), by rw [ht]; exact hP, va_K.moved hW.alike hK, hD⟩, hS.F ht⟩) hS.2.2 dX3_moved_21
abbrev VT : Type := (Nat → Int64) × (Nat → Int32) × Int32
def t_move (u : VT) (d : Int32) (v : Int64) : VT := (vp_updL u.1 d.toNatClampNeg v, u.2.1, u.2.2 + 1)
def t_step (kd so fr tg : Nat → Int32) (F : VT → Int32 → Int64 → VT) (d : Int32) (i : Nat) (u : VT) : VT :=
  if fr (nI i).toNatClampNeg = d then
    (if u.2.1 (nI i).toNatClampNeg = 0 then F (u.1, upd u.2.1 (nI i).toNatClampNeg 1, u.2.2) (tg (nI i).toNatClampNeg) (m_gives kd u.1 (so (nI i).toNatClampNeg) d (tg (nI i).toNatClampNeg)) else u)
  else u
def t_rods (S : Nat → VT → VT) : Nat → Nat → VT → VT
  | 0, _, u => u
  | n + 1, i, u => t_rods S n (i + 1) (S i u)
def t_gets (kd : Nat → Int32) (lo hi : Nat → Int64) (so fr tg : Nat → Int32) (N : Nat) : Nat → VT → Int32 → Int64 → VT
  | 0, u, d, v => if m_fitted kd lo hi d v = u.1 d.toNatClampNeg then u else t_move u d (m_fitted kd lo hi d v)
  | k + 1, u, d, v => if m_fitted kd lo hi d v = u.1 d.toNatClampNeg then u else t_rods (t_step kd so fr tg (t_gets kd lo hi so fr tg N k) d) N 0 (t_move u d (m_fitted kd lo hi d v))
/-- what the open dials still come to, the latest first -/
def t_run (kd : Nat → Int32) (lo hi : Nat → Int64) (so fr tg : Nat → Int32) (N : Nat) (op nx : Nat → Int32) : Nat → VT → VT
  | 0, u => u
  | D + 1, u => t_run kd lo hi so fr tg N op nx D (t_rods (t_step kd so fr tg (t_gets kd lo hi so fr tg N (24 - D)) (op D)) (N - (nx D).toNatClampNeg) (nx D).toNatClampNeg u)
def cnt (gn : Nat → Int32) : Nat → Nat
  | 0 => 0
  | n + 1 => cnt gn n + (if gn n = 0 then 0 else 1)
theorem cnt_le (gn : Nat → Int32) : ∀ n, cnt gn n ≤ n
  | 0 => Nat.le_refl 0
  | n + 1 => by
    have := cnt_le gn n
    unfold cnt
    split <;> omega
theorem cnt_out (gn : Nat → Int32) {r : Nat} {v : Int32} : ∀ n, n ≤ r → cnt (upd gn r v) n = cnt gn n
  | 0, _ => rfl
  | n + 1, h => by
    unfold cnt
    rw [cnt_out gn n (by omega), pk_un (by omega)]
theorem cnt_up (gn : Nat → Int32) {r : Nat} (h0 : gn r = 0) : ∀ n, r < n → cnt (upd gn r 1) n = cnt gn n + 1
  | 0, h => absurd h (Nat.not_lt_zero r)
  | n + 1, h => by
    unfold cnt
    by_cases hr : r = n
    · subst hr
      rw [cnt_out gn r (Nat.le_refl r), pk_us, h0, if_neg (by decide), if_pos rfl]
    · rw [cnt_up gn h0 n (by omega), pk_un (fun q => hr q.symm)]
      omega
theorem t_skip {S : Nat → VT → VT} {u : VT} {N : Nat} : ∀ (d r0 : Nat), r0 + d ≤ N → (∀ j, r0 ≤ j → j < r0 + d → S j u = u) → t_rods S (N - r0) r0 u = t_rods S (N - (r0 + d)) (r0 + d) u
  | 0, r0, _, _ => rfl
  | d + 1, r0, hN, hs => by
    have e : N - r0 = (N - (r0 + 1)) + 1 := by omega
    rw [e]
    show t_rods S (N - (r0 + 1)) (r0 + 1) (S r0 u) = _
    rw [hs r0 (Nat.le_refl _) (by omega), t_skip d (r0 + 1) (by omega) (fun j h1 h2 => hs j (by omega) (by omega)), show r0 + 1 + d = r0 + (d + 1) by omega]
theorem t_skip2 {S : Nat → VT → VT} {u : VT} {N r0 r : Nat} (h : r0 ≤ r) (hN : r ≤ N) (hs : ∀ j, r0 ≤ j → j < r → S j u = u) : t_rods S (N - r0) r0 u = t_rods S (N - r) r u := by
  obtain ⟨d, rfl⟩ : ∃ d, r = r0 + d := ⟨r - r0, by omega⟩
  exact t_skip d r0 hN hs
section RUN
variable {kd : Nat → Int32} {lo hi : Nat → Int64} {so fr tg : Nat → Int32} {N : Nat}
theorem t_congr {op nx op2 nx2 : Nat → Int32} : ∀ (D : Nat) (u : VT), (∀ j, j < D → op j = op2 j) → (∀ j, j < D → nx j = nx2 j) → t_run kd lo hi so fr tg N op nx D u = t_run kd lo hi so fr tg N op2 nx2 D u
  | 0, _, _, _ => rfl
  | D + 1, u, h1, h2 => by
    unfold t_run
    rw [h1 D (by omega), h2 D (by omega)]
    exact t_congr D _ (fun j h => h1 j (by omega)) (fun j h => h2 j (by omega))
theorem t_nostep {F : VT → Int32 → Int64 → VT} {d : Int32} {j : Nat} {u : VT} (h : ¬ (fr (nI j).toNatClampNeg = d ∧ u.2.1 (nI j).toNatClampNeg = 0)) : t_step kd so fr tg F d j u = u := by
  unfold t_step
  by_cases h1 : fr (nI j).toNatClampNeg = d
  · rw [if_pos h1, if_neg (fun q => h ⟨h1, q⟩)]
  · rw [if_neg h1]
/-- the latest has no rod left -/
theorem t_pop {op nx : Nat → Int32} {D r0 k : Nat} {v : Int32} {u : VT} (hr0 : nx D = nI r0) (hr : r0 < 2 ^ 31) (hle : r0 ≤ N) (hk : k = D) (hno : ∀ j, r0 ≤ j → j < N → ¬ (fr (nI j).toNatClampNeg = op D ∧ u.2.1 (nI j).toNatClampNeg = 0)) : t_run kd lo hi so fr tg N op nx (D + 1) u = t_run kd lo hi so fr tg N op (upd nx k v) D u := by
  conv => lhs; unfold t_run
  rw [hr0, nI_clamp hr, t_skip2 hle (Nat.le_refl N) (fun j h1 h2 => t_nostep (hno j h1 h2)), Nat.sub_self]
  refine t_congr D u (fun _ _ => rfl) (fun j h => ?_)
  rw [pk_un (by omega)]
/-- up to the next rod -/
theorem t_next {op nx : Nat → Int32} {D r0 r : Nat} {u : VT} (hr0 : nx D = nI r0) (hr : r < N) (hN : N ≤ 24) (hle : r0 ≤ r) (hno : ∀ j, r0 ≤ j → j < r → ¬ (fr (nI j).toNatClampNeg = op D ∧ u.2.1 (nI j).toNatClampNeg = 0)) (hf : fr (nI r).toNatClampNeg = op D) (hg : u.2.1 (nI r).toNatClampNeg = 0) :
    t_run kd lo hi so fr tg N op nx (D + 1) u = t_run kd lo hi so fr tg N op nx D (t_rods (t_step kd so fr tg (t_gets kd lo hi so fr tg N (24 - D)) (op D)) (N - (r + 1)) (r + 1) (t_gets kd lo hi so fr tg N (24 - D) (u.1, upd u.2.1 (nI r).toNatClampNeg 1, u.2.2) (tg (nI r).toNatClampNeg) (m_gives kd u.1 (so (nI r).toNatClampNeg) (op D) (tg (nI r).toNatClampNeg)))) := by
  conv => lhs; unfold t_run
  rw [hr0, nI_clamp (by omega), t_skip2 hle (by omega) (fun j h1 h2 => t_nostep (hno j h1 h2)), show N - r = (N - (r + 1)) + 1 by omega]
  show t_run kd lo hi so fr tg N op nx D (t_rods _ (N - (r + 1)) (r + 1) (t_step kd so fr tg _ (op D) r u)) = _
  congr 2
  unfold t_step
  rw [if_pos hf, if_pos hg]
theorem t_back {op nx : Nat → Int32} {D r k : Nat} {v : Int32} {u : VT} (hk : k = D) (hv : v = nI (r + 1)) (hr : r < 24) : t_run kd lo hi so fr tg N op (upd nx k v) (D + 1) u = t_run kd lo hi so fr tg N op nx D (t_rods (t_step kd so fr tg (t_gets kd lo hi so fr tg N (24 - D)) (op D)) (N - (r + 1)) (r + 1) u) := by
  conv => lhs; unfold t_run
  rw [hk, pk_us, hv, nI_clamp (by omega)]
  refine t_congr D _ (fun _ _ => rfl) (fun j h => ?_)
  rw [pk_un (by omega)]
theorem t_same {k : Nat} {u : VT} {d : Int32} {v : Int64} (h : m_fitted kd lo hi d v = u.1 d.toNatClampNeg) : t_gets kd lo hi so fr tg N k u d v = u := by
  cases k <;> (unfold t_gets; rw [if_pos h])
theorem t_succ {k : Nat} {u : VT} {d : Int32} {v : Int64} (h : ¬ m_fitted kd lo hi d v = u.1 d.toNatClampNeg) : t_gets kd lo hi so fr tg N (k + 1) u d v = t_rods (t_step kd so fr tg (t_gets kd lo hi so fr tg N k) d) N 0 (t_move u d (m_fitted kd lo hi d v)) := by
  conv => lhs; unfold t_gets
  rw [if_neg h]
theorem t_push {op nx : Nat → Int32} {D k1 k2 : Nat} {x z : Int32} {w : VT} (h1 : k1 = D) (h2 : k2 = D) (hz : z = 0) : t_run kd lo hi so fr tg N (upd op k1 x) (upd nx k2 z) (D + 1) w = t_run kd lo hi so fr tg N op nx D (t_rods (t_step kd so fr tg (t_gets kd lo hi so fr tg N (24 - D)) x) N 0 w) := by
  conv => lhs; unfold t_run
  rw [h1, h2, pk_us, pk_us, hz, sb_cl0, Nat.sub_zero]
  refine t_congr D _ (fun j h => ?_) (fun j h => ?_)
  · rw [pk_un (by omega)]
  · rw [pk_un (by omega)]
end RUN
