abbrev KS : Type := (Nat → Int64) × (Nat → Int32) × Int32 × Int32
def SimR (kd : Nat → Int32) (N : Nat) (ma0 : Int32) (vl0 : Nat → Int64) (k0 kK : KS) (s : Nat) (u : VS) (w : VT) : Prop :=
  u.1 = w.1 ∧ (∀ j, j < N → u.2.1 j = w.2.1 j) ∧ u.2.2.1 = w.2.2 ∧ (∀ j, IR (kd j) (u.1 j)) ∧ ∃ c : Nat, u.2.2.1 = nI c ∧ c ≤ s + cnt w.2.1 N ∧ u.2.2.2.1 = ma0 + nI c ∧ (c = 0 → u.1 = vl0 ∧ u.2.2.2.2 = k0) ∧ (¬ c = 0 → u.2.2.2.2 = kK)
def keepK (nd : Int32) (vl0 : Nat → Int64) (k0 : KS) : KS := (k_sv vl0 k0.1 k0.2.2.1 k0.2.2.2 nd, k_sd k0.2.1 k0.2.2.1 k0.2.2.2 nd, k_se k0.2.2.1 k0.2.2.2, k_sh k0.2.2.2)
section SIM
variable {kd : Nat → Int32} {lo hi : Nat → Int64} {nd : Int32} {so fr tg : Nat → Int32} {N : Nat} {ma0 : Int32} {vl0 : Nat → Int64} {k0 : KS}
theorem sim_move {u : VS} {w : VT} {d : Int32} {f : Int64} (hN : N ≤ 24) (h : SimR kd N ma0 vl0 k0 (keepK nd vl0 k0) 0 u w) (hf : IR (kd d.toNatClampNeg) f) : SimR kd N ma0 vl0 k0 (keepK nd vl0 k0) 1 (v_move nd u d f) (t_move w d f) := by
  obtain ⟨h1, h2, h3, h4, c, c1, c2, c3, c4, c5⟩ := h
  have hcl := cnt_le w.2.1 N
  refine ⟨?_, h2, ?_, ?_, c + 1, ?_, ?_, ?_, fun q => absurd q (by omega), fun _ => ?_⟩
  · show vp_updL u.1 _ f = vp_updL w.1 _ f
    rw [h1]
  · show u.2.2.1 + 1 = w.2.2 + 1
    rw [h3]
  · intro j
    show IR (kd j) (vp_updL u.1 d.toNatClampNeg f j)
    by_cases hj : j = d.toNatClampNeg
    · rw [hj, pk_uLs]
      exact hf
    · rw [pk_uLn hj]
      exact h4 j
  · show u.2.2.1 + 1 = nI (c + 1)
    rw [c1, nI_1]
  · show c + 1 ≤ 1 + cnt w.2.1 N
    omega
  · show u.2.2.2.1 + 1 = ma0 + nI (c + 1)
    rw [c3, Int32.add_assoc, nI_1]
  · show ((if u.2.2.1 = 0 then _ else _), (if u.2.2.1 = 0 then _ else _), (if u.2.2.1 = 0 then _ else _), (if u.2.2.1 = 0 then _ else _)) = keepK nd vl0 k0
    by_cases hc : c = 0
    · have e0 : u.2.2.1 = 0 := by rw [c1, hc]; rfl
      rw [if_pos e0, if_pos e0, if_pos e0, if_pos e0, (c4 hc).1, (c4 hc).2]
      rfl
    · have e0 : ¬ u.2.2.1 = 0 := by rw [c1]; exact nI_ne0 (by omega) (by omega)
      rw [if_neg e0, if_neg e0, if_neg e0, if_neg e0]
      exact c5 hc
theorem sim_weak {u : VS} {w : VT} {kK : KS} (h : SimR kd N ma0 vl0 k0 kK 0 u w) : SimR kd N ma0 vl0 k0 kK 1 u w := by
  obtain ⟨h1, h2, h3, h4, c, c1, c2, c3, c4, c5⟩ := h
  exact ⟨h1, h2, h3, h4, c, c1, by omega, c3, c4, c5⟩
theorem sim_rods {kK : KS} {S : Nat → VS → VS} {T : Nat → VT → VT} (hs : ∀ i, i < N → ∀ u w, SimR kd N ma0 vl0 k0 kK 1 u w → SimR kd N ma0 vl0 k0 kK 1 (S i u) (T i w)) : ∀ (n i : Nat) (u : VS) (w : VT), i + n ≤ N → SimR kd N ma0 vl0 k0 kK 1 u w → SimR kd N ma0 vl0 k0 kK 1 (x_rods S n i u) (t_rods T n i w)
  | 0, _, _, _, _, h => h
  | n + 1, i, u, w, hi, h => sim_rods hs n (i + 1) (S i u) (T i w) (by omega) (hs i (by omega) u w h)
theorem sim_step {kK : KS} {F : VS → Int32 → Int64 → VS} {G : VT → Int32 → Int64 → VT} {d : Int32} (hN : N ≤ 24) (hk : ∀ j, okK (kd j)) (hrod : ∀ i, i < N → kd (fr i).toNatClampNeg = kd (tg i).toNatClampNeg ∧ (so i = 2 → kd (fr i).toNatClampNeg = 2 ∨ kd (fr i).toNatClampNeg = 3)) (hF : ∀ u w d v, SimR kd N ma0 vl0 k0 kK 0 u w → IR (kd d.toNatClampNeg) v → SimR kd N ma0 vl0 k0 kK 1 (F u d v) (G w d v)) (i : Nat) (hi : i < N) (u : VS) (w : VT) (h : SimR kd N ma0 vl0 k0 kK 1 u w) : SimR kd N ma0 vl0 k0 kK 1 (x_step kd so fr tg F d i u) (t_step kd so fr tg G d i w) := by
  have e : (nI i).toNatClampNeg = i := nI_clamp (by omega)
  unfold x_step t_step
  rw [e]
  by_cases hf : fr i = d
  · rw [if_pos hf, if_pos hf]
    obtain ⟨h1, h2, h3, h4, c, c1, c2, c3, c4, c5⟩ := id h
    have hg := h2 i hi
    by_cases hz : u.2.1 i = 0
    · rw [if_pos hz, if_pos (by rw [← hg]; exact hz)]
      rw [gift_eq hk h4, ← h1]
      refine hF _ _ _ _ ⟨rfl, ?_, h3, h4, c, c1, ?_, c3, c4, c5⟩ ?_
      · intro j hj
        show upd u.2.1 i 1 j = upd w.2.1 i 1 j
        by_cases hji : j = i
        · rw [hji, pk_us, pk_us]
        · rw [pk_un hji, pk_un hji]
          exact h2 j hj
      · show c ≤ 0 + cnt (upd w.2.1 i 1) N
        rw [cnt_up w.2.1 (by rw [← hg]; exact hz) N hi]
        omega
      · rw [← gift_eq hk h4]
        obtain ⟨r1, r2⟩ := hrod i hi
        rw [hf] at r1 r2
        exact IR_gift hk h4 r1 r2
    · rw [if_neg hz, if_neg (by rw [← hg]; exact hz)]
      exact h
  · rw [if_neg hf, if_neg hf]
    exact h
theorem sim_gets (hN : N ≤ 24) (hk : ∀ j, okK (kd j)) (hlo : ∀ j, IR (kd j) (lo j)) (hhi : ∀ j, IR (kd j) (hi j)) (hrod : ∀ i, i < N → kd (fr i).toNatClampNeg = kd (tg i).toNatClampNeg ∧ (so i = 2 → kd (fr i).toNatClampNeg = 2 ∨ kd (fr i).toNatClampNeg = 3)) : ∀ (k : Nat) (u : VS) (w : VT) (d : Int32) (v : Int64), SimR kd N ma0 vl0 k0 (keepK nd vl0 k0) 0 u w → IR (kd d.toNatClampNeg) v → SimR kd N ma0 vl0 k0 (keepK nd vl0 k0) 1 (x_gets kd lo hi nd so fr tg N k u d v) (t_gets kd lo hi so fr tg N k w d v) := by
  intro k
  induction k with
  | zero =>
    intro u w d v h hv
    have hfit : IR (kd d.toNatClampNeg) (x_fit kd lo hi d v) := IR_fitted (hlo _) (hhi _) hv
    by_cases hc : x_fit kd lo hi d v = u.1 d.toNatClampNeg
    · rw [x_gets_same hc, t_same (by rw [← fit_eq (hk _), ← h.1]; exact hc)]
      exact sim_weak h
    · rw [x_gets_zero hc]
      unfold t_gets
      rw [← fit_eq (hk _), ← h.1, if_neg hc]
      exact sim_move hN h hfit
  | succ k ih =>
    intro u w d v h hv
    have hfit : IR (kd d.toNatClampNeg) (x_fit kd lo hi d v) := IR_fitted (hlo _) (hhi _) hv
    by_cases hc : x_fit kd lo hi d v = u.1 d.toNatClampNeg
    · rw [x_gets_same hc, t_same (by rw [← fit_eq (hk _), ← h.1]; exact hc)]
      exact sim_weak h
    · rw [x_gets_succ hc, t_succ (by rw [← fit_eq (hk _), ← h.1]; exact hc), ← fit_eq (hk _)]
      exact sim_rods (fun i hi u w h => sim_step hN hk hrod ih i hi u w h) N 0 _ _ (by omega) (sim_move hN h hfit)
end SIM
section FUEL
variable {kd : Nat → Int32} {lo hi : Nat → Int64} {so fr tg : Nat → Int32} {N : Nat}
theorem cnt_full {gn : Nat → Int32} : ∀ n, cnt gn n = n → ∀ j, j < n → ¬ gn j = 0
  | 0, _, j, h => absurd h (Nat.not_lt_zero j)
  | n + 1, hc, j, h => by
    have hl := cnt_le gn n
    unfold cnt at hc
    by_cases h0 : gn n = 0
    · rw [if_pos h0] at hc
      omega
    · rw [if_neg h0] at hc
      by_cases hj : j = n
      · rw [hj]; exact h0
      · exact cnt_full n (by omega) j (by omega)
theorem mono_rods {S : Nat → VT → VT} (hs : ∀ i, i < N → ∀ w : VT, cnt w.2.1 N ≤ cnt (S i w).2.1 N) : ∀ (n i : Nat) (w : VT), i + n ≤ N → cnt w.2.1 N ≤ cnt (t_rods S n i w).2.1 N
  | 0, _, _, _ => Nat.le_refl _
  | n + 1, i, w, hi => Nat.le_trans (hs i (by omega) w) (mono_rods hs n (i + 1) (S i w) (by omega))
theorem mono_step {F : VT → Int32 → Int64 → VT} {d : Int32} (hN : N ≤ 24) (hF : ∀ (w : VT) d v, cnt w.2.1 N ≤ cnt (F w d v).2.1 N) (i : Nat) (hi : i < N) (w : VT) : cnt w.2.1 N ≤ cnt (t_step kd so fr tg F d i w).2.1 N := by
  have e : (nI i).toNatClampNeg = i := nI_clamp (by omega)
  unfold t_step
  rw [e]
  by_cases hf : fr i = d
  · rw [if_pos hf]
    by_cases hz : w.2.1 i = 0
    · rw [if_pos hz]
      refine Nat.le_trans ?_ (hF _ _ _)
      show cnt w.2.1 N ≤ cnt (upd w.2.1 i 1) N
      rw [cnt_up w.2.1 hz N hi]
      omega
    · rw [if_neg hz]
      exact Nat.le_refl _
  · rw [if_neg hf]
    exact Nat.le_refl _
theorem mono_gets (hN : N ≤ 24) : ∀ (k : Nat) (w : VT) (d : Int32) (v : Int64), cnt w.2.1 N ≤ cnt (t_gets kd lo hi so fr tg N k w d v).2.1 N := by
  intro k
  induction k with
  | zero =>
    intro w d v
    unfold t_gets
    split
    · exact Nat.le_refl _
    · exact Nat.le_refl _
  | succ k ih =>
    intro w d v
    by_cases hc : m_fitted kd lo hi d v = w.1 d.toNatClampNeg
    · rw [t_same hc]
      exact Nat.le_refl _
    · rw [t_succ hc]
      exact mono_rods (fun i hi w => mono_step hN ih i hi w) N 0 (t_move w d (m_fitted kd lo hi d v)) (by omega)
theorem fuel_rods {S T : Nat → VT → VT} {K : Nat} (hm : ∀ i, i < N → ∀ w : VT, cnt w.2.1 N ≤ cnt (S i w).2.1 N) (he : ∀ i, i < N → ∀ w : VT, N ≤ K + cnt w.2.1 N → S i w = T i w) : ∀ (n i : Nat) (w : VT), i + n ≤ N → N ≤ K + cnt w.2.1 N → t_rods S n i w = t_rods T n i w
  | 0, _, _, _, _ => rfl
  | n + 1, i, w, hi, hw => by
    show t_rods S n (i + 1) (S i w) = t_rods T n (i + 1) (T i w)
    have h1 := hm i (by omega) w
    rw [fuel_rods hm he n (i + 1) (S i w) (by omega) (by omega), he i (by omega) w hw]
theorem t_fuel (hN : N ≤ 24) : ∀ (k : Nat) (w : VT) (d : Int32) (v : Int64), N ≤ k + cnt w.2.1 N → t_gets kd lo hi so fr tg N k w d v = t_gets kd lo hi so fr tg N (k + 1) w d v := by
  intro k
  induction k with
  | zero =>
    intro w d v hw
    by_cases hc : m_fitted kd lo hi d v = w.1 d.toNatClampNeg
    · rw [t_same hc, t_same hc]
    · rw [t_succ hc]
      have hfull := cnt_full (gn := w.2.1) N (by have := cnt_le w.2.1 N; omega)
      have := t_skip2 (S := t_step kd so fr tg (t_gets kd lo hi so fr tg N 0) d) (u := t_move w d (m_fitted kd lo hi d v)) (Nat.zero_le N) (Nat.le_refl N) (fun j _ hj => t_nostep (fun q => hfull j hj (by
        have e : (nI j).toNatClampNeg = j := nI_clamp (by omega)
        have q2 := q.2
        rw [e] at q2
        exact q2)))
      rw [Nat.sub_zero, Nat.sub_self] at this
      rw [this]
      unfold t_gets
      rw [if_neg hc]
      rfl
  | succ k ih =>
    intro w d v hw
    by_cases hc : m_fitted kd lo hi d v = w.1 d.toNatClampNeg
    · rw [t_same hc, t_same hc]
    · rw [t_succ hc, t_succ hc]
      refine fuel_rods (K := k + 1) (fun i hi w => mono_step hN (mono_gets hN k) i hi w) (fun i hi w hw => ?_) N 0 _ (by omega) hw
      have e : (nI i).toNatClampNeg = i := nI_clamp (by omega)
      unfold t_step
      rw [e]
      by_cases hf : fr i = d
      · rw [if_pos hf, if_pos hf]
        by_cases hz : w.2.1 i = 0
        · rw [if_pos hz, if_pos hz]
          refine ih _ _ _ ?_
          show N ≤ k + cnt (upd w.2.1 i 1) N
          rw [cnt_up w.2.1 hz N hi]
          omega
        · rw [if_neg hz, if_neg hz]
      · rw [if_neg hf, if_neg hf]
end FUEL
