def RelS (kd : Nat → Int32) (lo hi vl : Nat → Int64) (nd : Int32) (so fr tg : Nat → Int32) (nr : Int32) : Prop :=
  (0 ≤ nd ∧ nd ≤ 16) ∧ (0 ≤ nr ∧ nr ≤ 24) ∧ (∀ j, vp_in (tg j) 16) ∧ (∀ j, okK (kd j)) ∧ (∀ j, IR (kd j) (lo j)) ∧ (∀ j, IR (kd j) (hi j)) ∧ (∀ j, IR (kd j) (vl j)) ∧ (∀ i, i < nr.toNatClampNeg → (fr i).toNatClampNeg < nd.toNatClampNeg ∧ (tg i).toNatClampNeg < nd.toNatClampNeg ∧ kd (fr i).toNatClampNeg = kd (tg i).toNatClampNeg ∧ (so i = 2 → kd (fr i).toNatClampNeg = 2 ∨ kd (fr i).toNatClampNeg = 3))
def RelK (kd : Nat → Int32) (nd : Int32) (sv : Nat → Int64) (sd : Nat → Int32) (se sh : Int32) (kp : Nat → Int64) (kx : Nat → Int32) (st : Int32) : Prop :=
  okE se sh ∧ sh = st ∧ (∀ j, 0 ≤ sd j ∧ sd j ≤ 16) ∧ (∀ j, 0 ≤ kx j ∧ kx j ≤ 16) ∧ ∀ i, i < st.toNatClampNeg → sd ((se.toNatClampNeg + i) % 6) = kx i ∧ (kx i).toNatClampNeg ≤ nd.toNatClampNeg ∧ ∀ d, d < (kx i).toNatClampNeg → sv ((se.toNatClampNeg + i) % 6 * 16 + d) = kp (16 * i + d) ∧ IR (kd d) (kp (16 * i + d))
theorem okE_nat {se sh : Int32} (h : okE se sh) : ∃ E H : Nat, E ≤ 5 ∧ H ≤ 6 ∧ se = nI E ∧ sh = nI H := by
  obtain ⟨e, he, r1⟩ := nI_of2 (M := 5) (n := 5) (by decide) (Int32.not_lt.mpr h.1) h.2.1
  obtain ⟨k, hk, r2⟩ := nI_of2 (M := 6) (n := 6) (by decide) (Int32.not_lt.mpr h.2.2.1) h.2.2.2
  exact ⟨e, k, he, hk, r1, r2⟩
theorem n16 {x : Int32} (h : 0 ≤ x ∧ x ≤ 16) : ∃ n : Nat, n ≤ 16 ∧ x = nI n := by
  obtain ⟨N, hN, r⟩ := nI_of2 (M := 16) (n := 16) (by decide) (Int32.not_lt.mpr h.1) h.2
  exact ⟨N, hN, r⟩
theorem upd_in {f : Nat → Int32} {k : Nat} {x : Int32} {P : Int32 → Prop} (hf : ∀ j, P (f j)) (hx : P x) : ∀ j, P (upd f k x j) := by
  intro j
  by_cases h : j = k
  · rw [h, pk_us]; exact hx
  · rw [pk_un h]; exact hf j
/-- a step is kept on both sides -/
theorem rel_keep {kd : Nat → Int32} {nd : Int32} {vl ah sv kp : Nat → Int64} {sd kx : Nat → Int32} {se sh st : Int32} (hn : 0 ≤ nd ∧ nd ≤ 16) (hv : ∀ j, IR (kd j) (vl j)) (h : RelK kd nd sv sd se sh kp kx st) :
    RelK kd nd (k_sv vl sv se sh nd) (k_sd sd se sh nd) (k_se se sh) (k_sh sh) (if st = 6 then pst (cpx vl ah 16) (dnL kp 80) (st - 1) 16 else pst (cpx vl ah 16) kp st 16) (if st = 6 then upd (dnI kx 5) (st - 1).toNatClampNeg nd else upd kx st.toNatClampNeg nd) (if st = 6 then st - 1 + 1 else st + 1) := by
  obtain ⟨hE, rfl, hsd, hkx, hr⟩ := h
  have hEk := okE_k hE
  obtain ⟨E, H, hE5, hH6, rfl, rfl⟩ := okE_nat hE
  obtain ⟨n, hn16, rfl⟩ := n16 hn
  have e16 : (16 : Int32) = nI 16 := rfl
  have hcE : (nI E).toNatClampNeg = E := nI_clamp (by omega)
  have hcH : (nI H).toNatClampNeg = H := nI_clamp (by omega)
  have hcn : (nI n).toNatClampNeg = n := nI_clamp (by omega)
  rw [hcH] at hr
  rw [hcE] at hr
  by_cases h6 : nI H = 6
  · have hH : H = 6 := (nI_eq (b := 6) (by omega) (by decide)).mp h6
    subst hH
    rw [if_pos h6, if_pos h6, if_pos h6]
    have es : k_se (nI E) (nI 6) = nI ((E + 1) % 6) := by
      unfold k_se
      rw [if_pos h6, nI_1, rem6 (by omega)]
    have e5 : k_s0 (nI 6) = nI 5 := by decide
    have esl : k_slot (nI E) (nI 6) = nI E := by
      unfold k_slot
      rw [es, e5, nI_add, rem6 (by omega)]
      congr 1
      omega
    have est : (nI 6 - 1 : Int32) = nI 5 := by decide
    have hc5 : (nI 5).toNatClampNeg = 5 := by decide
    have hx6 : (nI 5 + 1 : Int32) = nI 6 := by decide
    have hc6 : (nI 6).toNatClampNeg = 6 := by decide
    have hcs : (nI ((E + 1) % 6)).toNatClampNeg = (E + 1) % 6 := nI_clamp (by omega)
    refine ⟨hEk, by decide, upd_in (P := fun x => 0 ≤ x ∧ x ≤ 16) hsd hn, ?_, ?_⟩
    · refine upd_in (P := fun x => 0 ≤ x ∧ x ≤ 16) (fun j => ?_) hn
      unfold dnI
      split
      · exact hkx _
      · exact hkx _
    · intro i hi
      rw [est, hx6, hc6] at hi
      rw [es, est, hc5, hcs]
      unfold k_sd k_sv pst
      rw [esl, hcE, e16, pk_mul, pk_mul, hcn, nI_clamp (n := E * 16) (by omega), nI_clamp (n := 16 * 5) (by omega), sb_cl0]
      by_cases h5 : i = 5
      · subst h5
        have eix : ((E + 1) % 6 + 5) % 6 = E := by omega
        rw [eix, pk_us, pk_us, hcn]
        refine ⟨rfl, Nat.le_refl _, fun d hd => ?_⟩
        rw [pk_cpy_in (by omega) (by omega), pk_cpy_in (by omega) (by omega)]
        unfold cpx
        rw [if_pos (by omega), show 0 + (E * 16 + d - E * 16) = d by omega, show 0 + (16 * 5 + d - 16 * 5) = d by omega]
        exact ⟨rfl, hv d⟩
      · have hne : ((E + 1) % 6 + i) % 6 ≠ E := by omega
        have eix : ((E + 1) % 6 + i) % 6 = (E + (i + 1)) % 6 := by omega
        rw [pk_un hne, pk_un h5]
        obtain ⟨q1, q2, q3⟩ := hr (i + 1) (by omega)
        have ekx : dnI kx 5 i = kx (i + 1) := by
          unfold dnI
          rw [if_pos (by omega)]
        rw [ekx, eix]
        refine ⟨q1, by rw [hcn] at q2; exact q2, fun d hd => ?_⟩
        have hd16 : d < 16 := by rw [hcn] at q2; omega
        obtain ⟨q4, q5⟩ := q3 d hd
        have hne2 : (E + (i + 1)) % 6 ≠ E := by omega
        rw [pk_cpy_out (by omega), pk_cpy_out (by omega)]
        unfold dnL
        rw [if_pos (by omega), show 16 * i + d + 16 = 16 * (i + 1) + d by omega]
        exact ⟨q4, q5⟩
  · have hH : H ≤ 5 := by
      have : H ≠ 6 := fun q => h6 (by rw [q]; rfl)
      omega
    rw [if_neg h6, if_neg h6, if_neg h6]
    have es : k_se (nI E) (nI H) = nI E := by
      unfold k_se
      rw [if_neg h6]
    have e5 : k_s0 (nI H) = nI H := by
      unfold k_s0
      rw [if_neg h6]
    have esl : k_slot (nI E) (nI H) = nI ((E + H) % 6) := by
      unfold k_slot
      rw [es, e5, nI_add, rem6 (by omega)]
    have hcs : (nI ((E + H) % 6)).toNatClampNeg = (E + H) % 6 := nI_clamp (by omega)
    refine ⟨hEk, by unfold k_sh; rw [e5], upd_in (P := fun x => 0 ≤ x ∧ x ≤ 16) hsd hn, upd_in (P := fun x => 0 ≤ x ∧ x ≤ 16) hkx hn, ?_⟩
    intro i hi
    rw [nI_1, nI_clamp (by omega)] at hi
    rw [es, hcH, hcE]
    unfold k_sd k_sv pst
    rw [esl, hcs, e16, pk_mul, pk_mul, hcn, nI_clamp (n := (E + H) % 6 * 16) (by omega), nI_clamp (n := 16 * H) (by omega), sb_cl0]
    by_cases h5 : i = H
    · subst h5
      rw [pk_us, pk_us, hcn]
      refine ⟨rfl, Nat.le_refl _, fun d hd => ?_⟩
      rw [pk_cpy_in (by omega) (by omega), pk_cpy_in (by omega) (by omega)]
      unfold cpx
      rw [if_pos (by omega), show 0 + ((E + i) % 6 * 16 + d - (E + i) % 6 * 16) = d by omega, show 0 + (16 * i + d - 16 * i) = d by omega]
      exact ⟨rfl, hv d⟩
    · have hne : (E + i) % 6 ≠ (E + H) % 6 := by omega
      rw [pk_un hne, pk_un h5]
      obtain ⟨q1, q2, q3⟩ := hr i (by omega)
      refine ⟨q1, by rw [hcn] at q2; exact q2, fun d hd => ?_⟩
      have hd16 : d < 16 := by rw [hcn] at q2; omega
      obtain ⟨q4, q5⟩ := q3 d hd
      rw [pk_cpy_out (by omega), pk_cpy_out (by omega)]
      exact ⟨q4, q5⟩
theorem updL_self {f : Nat → Int64} {k : Nat} {x : Int64} (h : x = f k) : vp_updL f k x = f := by
  funext j
  by_cases hj : j = k
  · rw [hj, pk_uLs, h]
  · rw [pk_uLn hj]
theorem back_eq {sv kp : Nat → Int64} {sl x : Int32} {M : Nat} (h : ∀ d, d < M → sv (sl * 16 + nI d).toNatClampNeg = kp (16 * x + nI d).toNatClampNeg) : ∀ (n i : Nat) (vl : Nat → Int64) (o : Int32), i + n = M → r_back sv sl n i vl o = b_back kp x n i vl o
  | 0, _, _, _, _ => rfl
  | n + 1, i, vl, o, hi => by
    show (if _ then _ else _) = _
    have e := h i (by omega)
    by_cases hc : vl (nI i).toNatClampNeg = sv (sl * 16 + nI i).toNatClampNeg
    · rw [if_pos hc, back_eq h n (i + 1) vl o (by omega)]
      show _ = b_back kp x n (i + 1) _ (if _ then _ else _)
      rw [if_pos (by rw [← e, hc]), updL_self (by rw [← e, hc]), Int32.add_zero]
    · rw [if_neg hc, back_eq h n (i + 1) _ _ (by omega)]
      show _ = b_back kp x n (i + 1) _ (if _ then _ else _)
      rw [if_neg (fun q => hc (by rw [e, q])), e]
theorem back_IR {kd : Nat → Int32} {kp : Nat → Int64} {x : Int32} {M : Nat} (hM : M ≤ 16) (h : ∀ d, d < M → IR (kd d) (kp (16 * x + nI d).toNatClampNeg)) : ∀ (n i : Nat) (vl : Nat → Int64) (o : Int32), i + n = M → (∀ j, IR (kd j) (vl j)) → ∀ j, IR (kd j) ((b_back kp x n i vl o).2 j)
  | 0, _, _, _, _, hv => hv
  | n + 1, i, vl, o, hi, hv => by
    refine back_IR hM h n (i + 1) _ _ (by omega) (fun j => ?_)
    have e : (nI i).toNatClampNeg = i := nI_clamp (by omega)
    rw [e]
    by_cases hj : j = i
    · rw [hj, pk_uLs]
      exact h i (by omega)
    · rw [pk_uLn hj]
      exact hv j
/-- the latest step is taken back on both sides -/
theorem rel_back {kd : Nat → Int32} {nd : Int32} {sv kp vl : Nat → Int64} {sd kx : Nat → Int32} {se sh st : Int32} (hn : 0 ≤ nd ∧ nd ≤ 16) (hv : ∀ j, IR (kd j) (vl j)) (h : RelK kd nd sv sd se sh kp kx st) (h0 : ¬ st = 0) (hc : ∀ j, okK (kd j)) :
    RelK kd nd sv sd se (sh - 1) kp kx (st - 1) ∧ r_back sv ((se + (sh - (1 : Int32))) - (se + (sh - (1 : Int32))) / (6 : Int32) * (6 : Int32)) (sd ((se + (sh - (1 : Int32))) - (se + (sh - (1 : Int32))) / (6 : Int32) * (6 : Int32)).toNatClampNeg).toNatClampNeg 0 vl 0 = b_back kp (st - (1 : Int32)) (kx (st - (1 : Int32)).toNatClampNeg).toNatClampNeg 0 vl 0 ∧ ∀ j, IR (kd j) ((b_back kp (st - (1 : Int32)) (kx (st - (1 : Int32)).toNatClampNeg).toNatClampNeg 0 vl 0).2 j) := by
  obtain ⟨hE, rfl, hsd, hkx, hr⟩ := h
  obtain ⟨E, H, hE5, hH6, rfl, rfl⟩ := okE_nat hE
  obtain ⟨n, hn16, rfl⟩ := n16 hn
  have e16 : (16 : Int32) = nI 16 := rfl
  have hcE : (nI E).toNatClampNeg = E := nI_clamp (by omega)
  have hcn : (nI n).toNatClampNeg = n := nI_clamp (by omega)
  rw [hcE] at hr
  cases H with
  | zero => exact absurd nI_0 h0
  | succ H =>
    rw [nI_clamp (by omega)] at hr
    have hcH : (nI H).toNatClampNeg = H := nI_clamp (by omega)
    have hcs : (nI ((E + H) % 6)).toNatClampNeg = (E + H) % 6 := nI_clamp (by omega)
    rw [nI_pred, nI_add, rem6 (by omega), hcs, hcH]
    obtain ⟨q1, q2, q3⟩ := hr H (by omega)
    obtain ⟨M, hM16, hM⟩ := n16 (hkx H)
    have hcM : (nI M).toNatClampNeg = M := nI_clamp (by omega)
    rw [q1, hM, hcM]
    rw [hM, hcM] at q3
    have ix1 : ∀ d, d < M → (nI ((E + H) % 6) * 16 + nI d).toNatClampNeg = (E + H) % 6 * 16 + d := fun d hd => by
      rw [e16, pk_mul, nI_add, nI_clamp (by omega)]
    have ix2 : ∀ d, d < M → (16 * nI H + nI d).toNatClampNeg = 16 * H + d := fun d hd => by
      rw [e16, pk_mul, nI_add, nI_clamp (by omega)]
    refine ⟨⟨⟨hE.1, hE.2.1, nI_pos' (by omega), ?_⟩, rfl, hsd, hkx, ?_⟩, back_eq (M := M) (fun d hd => ?_) M 0 vl 0 (by omega), back_IR hM16 (fun d hd => ?_) M 0 vl 0 (by omega) hv⟩
    · exact nI_le (b := 6) (by omega) (by decide)
    · intro i hi
      rw [hcH] at hi
      rw [hcE]
      exact hr i (by omega)
    · rw [ix1 d hd, ix2 d hd]
      exact (q3 d hd).1
    · rw [ix2 d hd]
      exact (q3 d hd).2
