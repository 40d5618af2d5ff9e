/-! ===== Pairs ===== -/
/-- the least common multiple, or -1 where it is above 60 -/
def lcmS (a b : Int) : Int := if ((Int.lcm a b : Nat) : Int) ≤ 60 then ((Int.lcm a b : Nat) : Int) else -1
theorem lcm_at {a b t : Int} (ha : 1 ≤ a) (hb : 1 ≤ b) (ht0 : 1 ≤ t) (ht : t ≤ 60) (h1 : a ∣ t) (h2 : t % b = 0) (hmin : ∀ m : Int, 0 < m → m < t → a ∣ m → ¬ b ∣ m) : t = lcmS a b := by
  have hd : ((Int.lcm a b : Nat) : Int) ∣ t := Int.coe_lcm_dvd h1 (Int.dvd_of_emod_eq_zero h2)
  have hle : ((Int.lcm a b : Nat) : Int) ≤ t := Int.le_of_dvd (by omega) hd
  have hpos : 0 < Int.lcm a b := Nat.pos_of_ne_zero (Int.lcm_ne_zero (by omega) (by omega))
  have e : ((Int.lcm a b : Nat) : Int) = t := by
    rcases Int.lt_or_eq_of_le hle with q | q
    · exact absurd (Int.dvd_lcm_right a b) (hmin _ (by omega) q (Int.dvd_lcm_left a b))
    · exact q
  rw [lcmS, if_pos (by omega), e]
theorem lcm_none {a b t : Int} (ha : 1 ≤ a) (hb : 1 ≤ b) (ht : 60 < t) (hmin : ∀ m : Int, 0 < m → m < t → a ∣ m → ¬ b ∣ m) : -1 = lcmS a b := by
  have hpos : 0 < Int.lcm a b := Nat.pos_of_ne_zero (Int.lcm_ne_zero (by omega) (by omega))
  rw [lcmS, if_neg]
  intro q
  exact absurd (Int.dvd_lcm_right a b) (hmin _ (by omega) (by omega) (Int.dvd_lcm_left a b))
theorem mult_next {a t m : Int} (ha : 1 ≤ a) (h : a ∣ t) (hm : a ∣ m) (h1 : t < m) : t + a ≤ m := by
  have h3 : a ∣ m - t := Int.dvd_sub hm h
  have := Int.le_of_dvd (by omega) h3
  omega
/-- 0 where two are alike, 1 where not -/
def dif (F G : Int → Int) (t : Int) : Int := if F t = G t then 0 else 1
noncomputable def unlikeS (F G : Int → Int) (last : Int) : Int := firstS (dif F G) 1 last
noncomputable def spanS (F G : Int → Int) (t : Int) : Int := firstS G (F t) (t + 1000000000)
noncomputable def waitS (F G : Int → Int) (n : Int) : Int := @ite Int (∀ t : Int, 0 ≤ t → t < n → spanS F G t ≠ -1) (Classical.propDecidable _) (sup0 (fun t => spanS F G t - t) n.toNat) (-1)
theorem waitS_t {F G : Int → Int} {n : Int} (h : ∀ t : Int, 0 ≤ t → t < n → spanS F G t ≠ -1) : waitS F G n = sup0 (fun t => spanS F G t - t) n.toNat := by rw [waitS, if_pos h]
theorem waitS_f {F G : Int → Int} {n t : Int} (h0 : 0 ≤ t) (h1 : t < n) (h : spanS F G t = -1) : waitS F G n = -1 := by rw [waitS, if_neg (fun q => q t h0 h1 h)]
theorem span_of {F G : Int → Int} {t x : Int} (h0 : 0 ≤ x) (h1 : x ≤ t + 1000000000) (hG : ∀ s u : Int, 0 ≤ s → s ≤ u → G s ≤ G u) (h : F t ≤ G x) : 0 ≤ spanS F G t ∧ spanS F G t ≤ x := by
  rcases firstS_spec G (F t) (t + 1000000000) with ⟨q1, q2⟩ | ⟨q1, q2, q3, q4⟩
  · have := q2 x h0 h1; omega
  · refine ⟨q1, ?_⟩
    rcases Int.lt_or_le x (spanS F G t) with q | q
    · have := q4 x h0 q; omega
    · exact q
theorem span_gt {F G : Int → Int} {t x : Int} (h0 : 0 ≤ x) (hG : ∀ s u : Int, 0 ≤ s → s ≤ u → G s ≤ G u) (h : G x < F t) (hs : spanS F G t ≠ -1) : x < spanS F G t ∧ spanS F G t ≤ t + 1000000000 := by
  rcases firstS_spec G (F t) (t + 1000000000) with ⟨q1, q2⟩ | ⟨q1, q2, q3, q4⟩
  · exact absurd q1 hs
  · refine ⟨?_, q2⟩
    rcases Int.lt_or_le x (spanS F G t) with q | q
    · exact q
    · have e : spanS F G t = firstS G (F t) (t + 1000000000) := rfl
      have := hG _ _ q1 (e ▸ q); omega
set_option maxRecDepth 100000 in
set_option maxHeartbeats 4000000 in
theorem k_X4_commonStep {G : aG} {d : Nat}  {h : aH} {c1 ci1 a1 : Nat} {T1 D1 C1 ld1 : Int} {am1 : Nat → Int} (hcv1 : CvAt h c1 ci1 a1 T1 D1 C1 am1 ld1) (hok1 : CvOk T1 D1 C1 am1) {c2 ci2 a2 : Nat} {T2 D2 C2 ld2 : Int} {am2 : Nat → Int} (hcv2 : CvAt h c2 ci2 a2 T2 D2 C2 am2 ld2) (hok2 : CvOk T2 D2 C2 am2) : MC G mX4_commonStep d 0 0 [vA c1, vA c2] h (Ret (vI (lcmS D1 D2)) h) := by
  obtain ⟨hT01, hT21, hD01, hD61, hC01, hC11, hA1, hM1, hW1⟩ := id hok1
  obtain ⟨hT02, hT22, hD02, hD62, hC02, hC12, hA2, hM2, hW2⟩ := id hok2
  refine MC.of (by decide) (Nat.le_of_ble_eq_true rfl) (fun ok okh => ?_)
  show EX G mX4_commonStep d 0 0 _ 0 [(0, vA c1), (1, vA c2)] [] h 0 0
  refine x_aload_n 0 dX4_commonStep_0 rfl rfl ?_
  refine x_get 1 dX4_commonStep_1 (fl_X4_9 _ hcv1.2.2) hcv1.1 rfl ?_
  refine x_iconst dX4_commonStep_4 (okI_c rfl) ?_
  refine x_icmp_lt 16 dX4_commonStep_5 (by decide) (fun c_5 => (by exfalso; omega)) (fun c_5 => ?_)
  refine x_aload_n 1 dX4_commonStep_8 rfl rfl ?_
  refine x_get 1 dX4_commonStep_9 (fl_X4_9 _ hcv2.2.2) hcv2.1 rfl ?_
  refine x_iconst dX4_commonStep_12 (okI_c rfl) ?_
  refine x_icmp_ge 18 dX4_commonStep_13 (by decide) (fun c_13 => ?_) (fun c_13 => (by exfalso; omega))
  refine x_aload_n 0 dX4_commonStep_18 rfl rfl ?_
  refine x_get 1 dX4_commonStep_19 (fl_X4_9 _ hcv1.2.2) hcv1.1 rfl ?_
  refine x_istore_n (L' := [(2, vI D1), (0, vA c1), (1, vA c2)]) dX4_commonStep_22 rfl (Nat.le_of_ble_eq_true rfl) rfl ?_
  have loop_23 : ∀ (k_23 : Nat) (t : Int) , (61 - t).toNat < k_23 → 1 ≤ t → t ≤ 60 + D1 → D1 ∣ t → (∀ m : Int, 0 < m → m < t → D1 ∣ m → ¬ D2 ∣ m) → EX G mX4_commonStep d 0 0 (Ret (vI (lcmS D1 D2)) h) 23 [(0, vA c1), (1, vA c2), (2, vI t)] [] h 0 0 := by
    intro k_23
    induction k_23 with
    | zero => intro t hm; exact absurd hm (Nat.not_lt_zero _)
    | succ k_23 ih_23 =>
      intro t hm_23 ht1 ht2 hdv hmin
      refine x_iload_n 2 dX4_commonStep_23 rfl rfl ?_
      refine x_bipush dX4_commonStep_24 (okI_c rfl) (by decide +kernel) ?_
      refine x_icmp_gt 50 dX4_commonStep_26 (by decide) (fun c_26 => ?_) (fun c_26 => ?_)
      · refine x_iconst dX4_commonStep_50 (okI_c rfl) ?_
        exact x_ireturn dX4_commonStep_51 rfl (by decide) (by decide) (retI (lcm_none hD01 hD02 c_26 hmin))
      · refine x_iload_n 2 dX4_commonStep_29 rfl rfl ?_
        refine x_aload_n 1 dX4_commonStep_30 rfl rfl ?_
        refine x_get 1 dX4_commonStep_31 (fl_X4_9 _ hcv2.2.2) hcv2.1 rfl ?_
        refine x_irem dX4_commonStep_34 (by omega) (by omega) ?_
        refine x_if_ne 40 dX4_commonStep_35 (by decide) (fun c_35 => ?_) (fun c_35 => ?_)
        · refine x_iload_n 2 dX4_commonStep_40 rfl rfl ?_
          refine x_aload_n 0 dX4_commonStep_41 rfl rfl ?_
          refine x_get 1 dX4_commonStep_42 (fl_X4_9 _ hcv1.2.2) hcv1.1 rfl ?_
          refine x_iadd dX4_commonStep_45 (by unfold okI; omega) ?_
          refine x_nmI (fun x1 e_x1 => ?_)
          refine x_istore_n (L' := [(2, vI x1), (0, vA c1), (1, vA c2)]) dX4_commonStep_46 rfl (Nat.le_of_ble_eq_true rfl) rfl ?_
          refine x_goto 23 dX4_commonStep_47 (by decide) ?_
          exact EX.pick [1, 2, 0] rfl (ih_23 x1  (by omega) (by omega) (by omega) (by rw [e_x1]; exact Int.dvd_add hdv (Int.dvd_refl _)) (fun m q1 q2 q3 q4 => by rcases Int.lt_trichotomy m t with q | q | q; exact hmin m q1 q q3 q4; exact c_35 (Int.emod_eq_zero_of_dvd (q ▸ q4)); exact absurd (mult_next hD01 hdv q3 q) (by omega)))
        · refine x_iload_n 2 dX4_commonStep_38 rfl rfl ?_
          exact x_ireturn dX4_commonStep_39 rfl (by decide) (by decide) (retI (lcm_at hD01 hD02 ht1 (by omega) hdv c_35 hmin))
  exact EX.pick [1, 2, 0] rfl (loop_23 ((61 - (D1 : Int)).toNat + 1) D1  (Nat.lt_succ_self _) (by omega) (by omega) (Int.dvd_refl _) (fun m q1 q2 q3 => absurd (Int.le_of_dvd q1 q3) (by omega)))
set_option maxRecDepth 100000 in
set_option maxHeartbeats 4000000 in
theorem k_X4_outruns {G : aG} {d : Nat} (hd : 1 ≤ d) {h : aH} {c1 ci1 a1 : Nat} {T1 D1 C1 ld1 : Int} {am1 : Nat → Int} (hcv1 : CvAt h c1 ci1 a1 T1 D1 C1 am1 ld1) (hok1 : CvOk T1 D1 C1 am1) {c2 ci2 a2 : Nat} {T2 D2 C2 ld2 : Int} {am2 : Nat → Int} (hcv2 : CvAt h c2 ci2 a2 T2 D2 C2 am2 ld2) (hok2 : CvOk T2 D2 C2 am2) {p : Int} (hp0 : 1 ≤ p) (hp : p ≤ 60) : MC G mX4_outruns d 0 0 [vA c1, vA c2, vI p] h (Ret (vI (b2i (C2 * (p / D2) < C1 * (p / D1)))) h) := by
  obtain ⟨hT01, hT21, hD01, hD61, hC01, hC11, hA1, hM1, hW1⟩ := id hok1
  obtain ⟨hT02, hT22, hD02, hD62, hC02, hC12, hA2, hM2, hW2⟩ := id hok2
  refine MC.of (by decide) (Nat.le_of_ble_eq_true rfl) (fun ok okh => ?_)
  show EX G mX4_outruns d 0 0 _ 0 [(0, vA c1), (1, vA c2), (2, vI p)] [] h 0 0
  refine x_aload_n 0 dX4_outruns_0 rfl rfl ?_
  refine x_iload_n 2 dX4_outruns_1 rfl rfl ?_
  refine x_callU [vI p] dX4_outruns_2 (ku_X4_15 _ hcv1.2.2) rfl rfl hcv1.1 (by omega) (Nat.le_of_ble_eq_true rfl) (by omega) (by omega) (k_X1_gainIn (d := 0) hcv1 hok1 (p := p) (by omega) (by omega)) (after_ret ?_)
  refine x_aload_n 1 dX4_outruns_5 rfl rfl ?_
  refine x_iload_n 2 dX4_outruns_6 rfl rfl ?_
  refine x_callU [vI p] dX4_outruns_7 (ku_X4_15 _ hcv2.2.2) rfl rfl hcv2.1 (by omega) (Nat.le_of_ble_eq_true rfl) (by omega) (by omega) (k_X1_gainIn (d := 0) hcv2 hok2 (p := p) (by omega) (by omega)) (after_ret ?_)
  refine x_lc_le 18 dX4_outruns_10 dX4_outruns_11 (by decide) (fun c_10 => ?_) (fun c_10 => ?_)
  · refine x_iconst dX4_outruns_18 (okI_c rfl) ?_
    exact x_zreturn dX4_outruns_19 rfl (by omega) (by decide) (by decide) (retI (b2i_f (by omega)).symm)
  · refine x_iconst dX4_outruns_14 (okI_c rfl) ?_
    refine x_goto 19 dX4_outruns_15 (by decide) ?_
    exact x_zreturn dX4_outruns_19 rfl (by omega) (by decide) (by decide) (retI (b2i_t c_10).symm)
set_option maxRecDepth 100000 in
set_option maxHeartbeats 4000000 in
theorem k_X4_settledSpan {G : aG} {d : Nat} (hd : 1 ≤ d) {h : aH} {c1 ci1 a1 : Nat} {T1 D1 C1 ld1 : Int} {am1 : Nat → Int} (hcv1 : CvAt h c1 ci1 a1 T1 D1 C1 am1 ld1) (hok1 : CvOk T1 D1 C1 am1) {c2 ci2 a2 : Nat} {T2 D2 C2 ld2 : Int} {am2 : Nat → Int} (hcv2 : CvAt h c2 ci2 a2 T2 D2 C2 am2 ld2) (hok2 : CvOk T2 D2 C2 am2) {p : Int} (hp0 : 1 ≤ p) (hp : p ≤ 60) : MC G mX4_settledSpan d 0 0 [vA c1, vA c2, vI p] h (Ret (vI (max T1 T2 + p)) h) := by
  obtain ⟨hT01, hT21, hD01, hD61, hC01, hC11, hA1, hM1, hW1⟩ := id hok1
  obtain ⟨hT02, hT22, hD02, hD62, hC02, hC12, hA2, hM2, hW2⟩ := id hok2
  refine MC.of (by decide) (Nat.le_of_ble_eq_true rfl) (fun ok okh => ?_)
  show EX G mX4_settledSpan d 0 0 _ 0 [(0, vA c1), (1, vA c2), (2, vI p)] [] h 0 0
  refine x_aload_n 0 dX4_settledSpan_0 rfl rfl ?_
  refine x_get 0 dX4_settledSpan_1 (fl_X4_19 _ hcv1.2.2) hcv1.1 rfl ?_
  refine x_aload_n 1 dX4_settledSpan_4 rfl rfl ?_
  refine x_get 0 dX4_settledSpan_5 (fl_X4_19 _ hcv2.2.2) hcv2.1 rfl ?_
  refine x_maxI dX4_settledSpan_8 km_X4_22 (by omega) (Nat.le_of_ble_eq_true rfl) (by omega) (by omega) ?_
  refine x_iload_n 2 dX4_settledSpan_11 rfl rfl ?_
  refine x_iadd dX4_settledSpan_12 (by unfold okI; omega) ?_
  exact x_ireturn dX4_settledSpan_13 rfl (by decide) (by decide) ⟨rfl, rfl⟩
set_option maxRecDepth 100000 in
set_option maxHeartbeats 4000000 in
theorem k_X4_firstUnlike {G : aG} {d : Nat} (hd : 2 ≤ d) {h : aH} {c1 ci1 a1 : Nat} {T1 D1 C1 ld1 : Int} {am1 : Nat → Int} (hcv1 : CvAt h c1 ci1 a1 T1 D1 C1 am1 ld1) (hok1 : CvOk T1 D1 C1 am1) {c2 ci2 a2 : Nat} {T2 D2 C2 ld2 : Int} {am2 : Nat → Int} (hcv2 : CvAt h c2 ci2 a2 T2 D2 C2 am2 ld2) (hok2 : CvOk T2 D2 C2 am2) {p : Int} (hp0 : 1 ≤ p) (hp : p ≤ 60) : MC G mX4_firstUnlike d 0 0 [vA c1, vA c2, vI p] h (Ret (vI (unlikeS (cval T1 D1 C1 am1) (cval T2 D2 C2 am2) (max T1 T2 + p))) h) := by
  obtain ⟨hT01, hT21, hD01, hD61, hC01, hC11, hA1, hM1, hW1⟩ := id hok1
  obtain ⟨hT02, hT22, hD02, hD62, hC02, hC12, hA2, hM2, hW2⟩ := id hok2
  refine MC.of (by decide) (Nat.le_of_ble_eq_true rfl) (fun ok okh => ?_)
  show EX G mX4_firstUnlike d 0 0 _ 0 [(0, vA c1), (1, vA c2), (2, vI p)] [] h 0 0
  refine x_aload_n 0 dX4_firstUnlike_0 rfl rfl ?_
  refine x_aload_n 1 dX4_firstUnlike_1 rfl rfl ?_
  refine x_iload_n 2 dX4_firstUnlike_2 rfl rfl ?_
  refine x_callS [vA c1, vA c2, vI p] dX4_firstUnlike_3 ks_X4_28 rfl rfl (by omega) (Nat.le_of_ble_eq_true rfl) (by omega) (by omega) (k_X4_settledSpan (d := 1) (by omega) hcv1 hok1 hcv2 hok2 hp0 hp) (after_ret ?_)
  refine x_nmI (fun x1 e_x1 => ?_)
  refine x_istore_n (L' := [(3, vI x1), (0, vA c1), (1, vA c2), (2, vI p)]) dX4_firstUnlike_6 rfl (Nat.le_of_ble_eq_true rfl) rfl ?_
  refine x_iconst dX4_firstUnlike_7 (okI_c rfl) ?_
  refine x_istore (L' := [(4, vI 0), (3, vI x1), (0, vA c1), (1, vA c2), (2, vI p)]) dX4_firstUnlike_8 (Nat.le_of_ble_eq_true rfl) rfl ?_
  have loop_10 : ∀ (k_10 : Nat) (t : Int) , (x1 + 1 - t).toNat < k_10 → 0 ≤ t → t ≤ x1 + 1 → (∀ y : Int, 0 ≤ y → y < t → (cval T1 D1 C1 am1) y = (cval T2 D2 C2 am2) y) → EX G mX4_firstUnlike d 0 0 (Ret (vI (unlikeS (cval T1 D1 C1 am1) (cval T2 D2 C2 am2) (max T1 T2 + p))) h) 10 [(0, vA c1), (1, vA c2), (2, vI p), (3, vI x1), (4, vI t)] [] h 0 0 := by
    intro k_10
    induction k_10 with
    | zero => intro t hm; exact absurd hm (Nat.not_lt_zero _)
    | succ k_10 ih_10 =>
      intro t hm_10 ht0 ht1 heq
      refine x_iload 4 dX4_firstUnlike_10 rfl ?_
      refine x_iload_n 3 dX4_firstUnlike_12 rfl rfl ?_
      refine x_icmp_gt 41 dX4_firstUnlike_13 (by decide) (fun c_13 => ?_) (fun c_13 => ?_)
      · refine x_iconst dX4_firstUnlike_41 (okI_c rfl) ?_
        exact x_ireturn dX4_firstUnlike_42 rfl (by decide) (by decide) (retI (First.eq (Or.inl ⟨rfl, fun y q1 q2 => by simp only [dif, if_pos (heq y q1 (by omega))]; omega⟩)))
      · refine x_aload_n 0 dX4_firstUnlike_16 rfl rfl ?_
        refine x_iload 4 dX4_firstUnlike_17 rfl ?_
        refine x_callU [vI t] dX4_firstUnlike_19 (ku_X4_34 _ hcv1.2.2) rfl rfl hcv1.1 (by omega) (Nat.le_of_ble_eq_true rfl) (by omega) (by omega) (k_X1_amount (d := 0) hcv1 hok1 (t := t) (by omega)) (after_ret ?_)
        refine x_aload_n 1 dX4_firstUnlike_22 rfl rfl ?_
        refine x_iload 4 dX4_firstUnlike_23 rfl ?_
        refine x_callU [vI t] dX4_firstUnlike_25 (ku_X4_34 _ hcv2.2.2) rfl rfl hcv2.1 (by omega) (Nat.le_of_ble_eq_true rfl) (by omega) (by omega) (k_X1_amount (d := 0) hcv2 hok2 (t := t) (by omega)) (after_ret ?_)
        refine x_lc_eq 35 dX4_firstUnlike_28 dX4_firstUnlike_29 (by decide) (fun c_28 => ?_) (fun c_28 => ?_)
        · refine x_iinc 4 (L' := [(4, vI (t + 1)), (0, vA c1), (1, vA c2), (2, vI p), (3, vI x1)]) dX4_firstUnlike_35 rfl (by unfold okI; omega) (Nat.le_of_ble_eq_true rfl) rfl ?_
          refine x_goto 10 dX4_firstUnlike_38 (by decide) ?_
          exact EX.pick [1, 2, 3, 4, 0] rfl (ih_10 (t + 1)  (by omega) (by omega) (by omega) (fun y q1 q2 => by by_cases q : y < t; exact heq y q1 q; have e : y = t := (by omega); rw [e]; exact c_28))
        · refine x_iload 4 dX4_firstUnlike_32 rfl ?_
          exact x_ireturn dX4_firstUnlike_34 rfl (by decide) (by decide) (retI (First.eq (Or.inr ⟨ht0, by omega, by simp only [dif, if_neg c_28]; omega, fun y q1 q2 => by simp only [dif, if_pos (heq y q1 q2)]; omega⟩)))
  exact EX.pick [2, 3, 4, 1, 0] rfl (loop_10 ((x1 + 1 - (0 : Int)).toNat + 1) 0  (Nat.lt_succ_self _) (by omega) (by omega) (fun y q1 q2 => by omega))
set_option maxRecDepth 100000 in
set_option maxHeartbeats 4000000 in
theorem k_X4_greatestLead {G : aG} {d : Nat} (hd : 2 ≤ d) {h : aH} {c1 ci1 a1 : Nat} {T1 D1 C1 ld1 : Int} {am1 : Nat → Int} (hcv1 : CvAt h c1 ci1 a1 T1 D1 C1 am1 ld1) (hok1 : CvOk T1 D1 C1 am1) {c2 ci2 a2 : Nat} {T2 D2 C2 ld2 : Int} {am2 : Nat → Int} (hcv2 : CvAt h c2 ci2 a2 T2 D2 C2 am2 ld2) (hok2 : CvOk T2 D2 C2 am2) {p : Int} (hp0 : 1 ≤ p) (hp : p ≤ 60) : MC G mX4_greatestLead d 0 0 [vA c1, vA c2, vI p] h (Ret (vJ (sup0 (fun t => (cval T1 D1 C1 am1) t - (cval T2 D2 C2 am2) t) (max T1 T2 + p).toNat)) h) := by
  obtain ⟨hT01, hT21, hD01, hD61, hC01, hC11, hA1, hM1, hW1⟩ := id hok1
  obtain ⟨hT02, hT22, hD02, hD62, hC02, hC12, hA2, hM2, hW2⟩ := id hok2
  refine MC.of (by decide) (Nat.le_of_ble_eq_true rfl) (fun ok okh => ?_)
  show EX G mX4_greatestLead d 0 0 _ 0 [(0, vA c1), (1, vA c2), (2, vI p)] [] h 0 0
  refine x_aload_n 0 dX4_greatestLead_0 rfl rfl ?_
  refine x_aload_n 1 dX4_greatestLead_1 rfl rfl ?_
  refine x_iload_n 2 dX4_greatestLead_2 rfl rfl ?_
  refine x_callS [vA c1, vA c2, vI p] dX4_greatestLead_3 ks_X4_28 rfl rfl (by omega) (Nat.le_of_ble_eq_true rfl) (by omega) (by omega) (k_X4_settledSpan (d := 1) (by omega) hcv1 hok1 hcv2 hok2 hp0 hp) (after_ret ?_)
  refine x_nmI (fun x1 e_x1 => ?_)
  refine x_istore_n (L' := [(3, vI x1), (0, vA c1), (1, vA c2), (2, vI p)]) dX4_greatestLead_6 rfl (Nat.le_of_ble_eq_true rfl) rfl ?_
  refine x_lconst (x := 0) dX4_greatestLead_7 (okJ_c rfl) rfl ?_
  refine x_lstore (L' := [(4, vJ 0), (3, vI x1), (0, vA c1), (1, vA c2), (2, vI p)]) dX4_greatestLead_8 (Nat.le_of_ble_eq_true rfl) rfl ?_
  refine x_iconst dX4_greatestLead_10 (okI_c rfl) ?_
  refine x_istore (L' := [(6, vI 0), (4, vJ 0), (3, vI x1), (0, vA c1), (1, vA c2), (2, vI p)]) dX4_greatestLead_11 (Nat.le_of_ble_eq_true rfl) rfl ?_
  have loop_13 : ∀ (k_13 : Nat) (w : Int) (t : Int) , (x1 - t).toNat < k_13 → 0 ≤ t → t ≤ x1 → w = sup0 (fun t => (cval T1 D1 C1 am1) t - (cval T2 D2 C2 am2) t) t.toNat → EX G mX4_greatestLead d 0 0 (Ret (vJ (sup0 (fun t => (cval T1 D1 C1 am1) t - (cval T2 D2 C2 am2) t) (max T1 T2 + p).toNat)) h) 13 [(0, vA c1), (1, vA c2), (2, vI p), (3, vI x1), (4, vJ w), (6, vI t)] [] h 0 0 := by
    intro k_13
    induction k_13 with
    | zero => intro w t hm; exact absurd hm (Nat.not_lt_zero _)
    | succ k_13 ih_13 =>
      intro w t hm_13 ht0 ht1 hw
      refine x_iload 5 dX4_greatestLead_13 rfl ?_
      refine x_iload_n 3 dX4_greatestLead_15 rfl rfl ?_
      refine x_icmp_ge 45 dX4_greatestLead_16 (by decide) (fun c_16 => ?_) (fun c_16 => ?_)
      · refine x_lload 4 dX4_greatestLead_45 rfl ?_
        exact x_lreturn dX4_greatestLead_47 rfl (by decide) (by decide) (retJ (by rw [hw]; congr 2; omega))
      · refine x_lload 4 dX4_greatestLead_19 rfl ?_
        refine x_aload_n 0 dX4_greatestLead_21 rfl rfl ?_
        refine x_iload 5 dX4_greatestLead_22 rfl ?_
        refine x_callU [vI t] dX4_greatestLead_24 (ku_X4_34 _ hcv1.2.2) rfl rfl hcv1.1 (by omega) (Nat.le_of_ble_eq_true rfl) (by omega) (by omega) (k_X1_amount (d := 0) hcv1 hok1 (t := t) (by omega)) (after_ret ?_)
        refine x_aload_n 1 dX4_greatestLead_27 rfl rfl ?_
        refine x_iload 5 dX4_greatestLead_28 rfl ?_
        refine x_callU [vI t] dX4_greatestLead_30 (ku_X4_34 _ hcv2.2.2) rfl rfl hcv2.1 (by omega) (Nat.le_of_ble_eq_true rfl) (by omega) (by omega) (k_X1_amount (d := 0) hcv2 hok2 (t := t) (by omega)) (after_ret ?_)
        have b1 := cval_nn hok1 ht0
        have b2 := cval_nn hok2 ht0
        have b3 := cval_top hok1 ht0
        have b4 := cval_top hok2 ht0
        refine x_lsub dX4_greatestLead_33 (by unfold okJ; omega) ?_
        refine x_maxJ dX4_greatestLead_34 km_X4_37 (by omega) (Nat.le_of_ble_eq_true rfl) (by omega) (by omega) ?_
        refine x_nmJ (fun x2 e_x2 => ?_)
        refine x_lstore (L' := [(4, vJ x2), (0, vA c1), (1, vA c2), (2, vI p), (3, vI x1), (6, vI t)]) dX4_greatestLead_37 (Nat.le_of_ble_eq_true rfl) rfl ?_
        refine x_iinc 5 (L' := [(6, vI (t + 1)), (4, vJ x2), (0, vA c1), (1, vA c2), (2, vI p), (3, vI x1)]) dX4_greatestLead_39 rfl (by unfold okI; omega) (Nat.le_of_ble_eq_true rfl) rfl ?_
        refine x_goto 13 dX4_greatestLead_42 (by decide) ?_
        exact EX.pick [2, 3, 4, 5, 1, 0] rfl (ih_13 x2 (t + 1)  (by omega) (by omega) (by omega) (by rw [sup0_s ht0, ← hw, e_x2]))
  exact EX.pick [3, 4, 5, 2, 1, 0] rfl (loop_13 ((x1 - (0 : Int)).toNat + 1) 0 0  (Nat.lt_succ_self _) (by omega) (by omega) rfl)
set_option maxRecDepth 100000 in
set_option maxHeartbeats 4000000 in
theorem k_X4_longestWait {G : aG} {d : Nat} (hd : 2 ≤ d) {h : aH} {c1 ci1 a1 : Nat} {T1 D1 C1 ld1 : Int} {am1 : Nat → Int} (hcv1 : CvAt h c1 ci1 a1 T1 D1 C1 am1 ld1) (hok1 : CvOk T1 D1 C1 am1) {c2 ci2 a2 : Nat} {T2 D2 C2 ld2 : Int} {am2 : Nat → Int} (hcv2 : CvAt h c2 ci2 a2 T2 D2 C2 am2 ld2) (hok2 : CvOk T2 D2 C2 am2) {p : Int} (hp0 : 1 ≤ p) (hp : p ≤ 60) : MC G mX4_longestWait d 0 0 [vA c1, vA c2, vI p] h (Ret (vI (waitS (cval T1 D1 C1 am1) (cval T2 D2 C2 am2) (max T1 T2 + p))) h) := by
  obtain ⟨hT01, hT21, hD01, hD61, hC01, hC11, hA1, hM1, hW1⟩ := id hok1
  obtain ⟨hT02, hT22, hD02, hD62, hC02, hC12, hA2, hM2, hW2⟩ := id hok2
  refine MC.of (by decide) (Nat.le_of_ble_eq_true rfl) (fun ok okh => ?_)
  show EX G mX4_longestWait d 0 0 _ 0 [(0, vA c1), (1, vA c2), (2, vI p)] [] h 0 0
  refine x_aload_n 0 dX4_longestWait_0 rfl rfl ?_
  refine x_aload_n 1 dX4_longestWait_1 rfl rfl ?_
  refine x_iload_n 2 dX4_longestWait_2 rfl rfl ?_
  refine x_callS [vA c1, vA c2, vI p] dX4_longestWait_3 ks_X4_28 rfl rfl (by omega) (Nat.le_of_ble_eq_true rfl) (by omega) (by omega) (k_X4_settledSpan (d := 1) (by omega) hcv1 hok1 hcv2 hok2 hp0 hp) (after_ret ?_)
  refine x_nmI (fun x1 e_x1 => ?_)
  refine x_istore_n (L' := [(3, vI x1), (0, vA c1), (1, vA c2), (2, vI p)]) dX4_longestWait_6 rfl (Nat.le_of_ble_eq_true rfl) rfl ?_
  refine x_iconst dX4_longestWait_7 (okI_c rfl) ?_
  refine x_istore (L' := [(4, vI 0), (3, vI x1), (0, vA c1), (1, vA c2), (2, vI p)]) dX4_longestWait_8 (Nat.le_of_ble_eq_true rfl) rfl ?_
  refine x_iconst dX4_longestWait_10 (okI_c rfl) ?_
  refine x_istore (L' := [(5, vI 0), (4, vI 0), (3, vI x1), (0, vA c1), (1, vA c2), (2, vI p)]) dX4_longestWait_11 (Nat.le_of_ble_eq_true rfl) rfl ?_
  have loop_13 : ∀ (k_13 : Nat) (w : Int) (t : Int) , (x1 - t).toNat < k_13 → 0 ≤ t → t ≤ x1 → 0 ≤ w → w ≤ 1000000000 → (∀ y : Int, 0 ≤ y → y < t → spanS (cval T1 D1 C1 am1) (cval T2 D2 C2 am2) y ≠ -1) → w = sup0 (fun t => spanS (cval T1 D1 C1 am1) (cval T2 D2 C2 am2) t - t) t.toNat → EX G mX4_longestWait d 0 0 (Ret (vI (waitS (cval T1 D1 C1 am1) (cval T2 D2 C2 am2) (max T1 T2 + p))) h) 13 [(0, vA c1), (1, vA c2), (2, vI p), (3, vI x1), (4, vI w), (5, vI t)] [] h 0 0 := by
    intro k_13
    induction k_13 with
    | zero => intro w t hm; exact absurd hm (Nat.not_lt_zero _)
    | succ k_13 ih_13 =>
      intro w t hm_13 ht0 ht1 hw0 hw1 hall hw
      refine x_iload 5 dX4_longestWait_13 rfl ?_
      refine x_iload_n 3 dX4_longestWait_15 rfl rfl ?_
      refine x_icmp_ge 76 dX4_longestWait_16 (by decide) (fun c_16 => ?_) (fun c_16 => ?_)
      · refine x_iload 4 dX4_longestWait_76 rfl ?_
        exact x_ireturn dX4_longestWait_78 rfl (by decide) (by decide) (retI (by rw [show max T1 T2 + p = t by omega, waitS_t hall, hw]))
      · refine x_aload_n 0 dX4_longestWait_19 rfl rfl ?_
        refine x_iload 5 dX4_longestWait_20 rfl ?_
        refine x_callU [vI t] dX4_longestWait_22 (ku_X4_34 _ hcv1.2.2) rfl rfl hcv1.1 (by omega) (Nat.le_of_ble_eq_true rfl) (by omega) (by omega) (k_X1_amount (d := 0) hcv1 hok1 (t := t) (by omega)) (after_ret ?_)
        refine x_nmJ (fun x2 e_x2 => ?_)
        refine x_lstore (L' := [(6, vJ x2), (0, vA c1), (1, vA c2), (2, vI p), (3, vI x1), (4, vI w), (5, vI t)]) dX4_longestWait_25 (Nat.le_of_ble_eq_true rfl) rfl ?_
        have b1 := cval_nn hok1 ht0
        have b3 := cval_top hok1 ht0
        refine x_aload_n 2 dX4_longestWait_27 rfl rfl ?_
        refine x_iload 6 dX4_longestWait_28 rfl ?_
        refine x_iload 5 dX4_longestWait_30 rfl ?_
        refine x_iadd dX4_longestWait_32 (by unfold okI; omega) ?_
        refine x_callU [vI (t + w)] dX4_longestWait_33 (ku_X4_34 _ hcv2.2.2) rfl rfl hcv2.1 (by omega) (Nat.le_of_ble_eq_true rfl) (by omega) (by omega) (k_X1_amount (d := 0) hcv2 hok2 (t := t + w) (by omega)) (after_ret ?_)
        refine x_lload 0 dX4_longestWait_36 rfl ?_
        refine x_lc_ge 70 dX4_longestWait_38 dX4_longestWait_39 (by decide) (fun c_38 => ?_) (fun c_38 => ?_)
        · refine x_iinc 6 (L' := [(5, vI (t + 1)), (6, vJ x2), (0, vA c1), (1, vA c2), (2, vI p), (3, vI x1), (4, vI w)]) dX4_longestWait_70 rfl (by unfold okI; omega) (Nat.le_of_ble_eq_true rfl) rfl ?_
          refine x_goto 13 dX4_longestWait_73 (by decide) ?_
          have hsp := span_of (F := (cval T1 D1 C1 am1)) (G := (cval T2 D2 C2 am2)) (t := t) (x := t + w) (by omega) (by omega) (fun a b q1 q2 => cval_mono hok2 q1 q2) (by rw [← e_x2]; exact c_38)
          exact EX.pick [2, 3, 4, 5, 6, 0] rfl (ih_13 w (t + 1)  (by omega) (by omega) (by omega) (by omega) (by omega) (fun y q1 q2 => by by_cases q : y < t; exact hall y q1 q; have e : y = t := (by omega); rw [e]; first | exact hne | omega) (by rw [sup0_s ht0, ← hw]; omega))
        · refine x_aload_n 2 dX4_longestWait_42 rfl rfl ?_
          refine x_lload 0 dX4_longestWait_43 rfl ?_
          refine x_iload 6 dX4_longestWait_45 rfl ?_
          refine x_ldc (n := 1000000000) dX4_longestWait_47 (okI_c rfl) kc_X4_40 ?_
          refine x_iadd dX4_longestWait_49 (by unfold okI; omega) ?_
          refine x_callU [vJ x2, vI (t + 1000000000)] dX4_longestWait_50 (ku_X4_41 _ hcv2.2.2) rfl rfl hcv2.1 (by omega) (Nat.le_of_ble_eq_true rfl) (by omega) (by omega) (k_X1_first (d := 1) (by omega) hcv2 hok2 (v := x2) (last := t + 1000000000) (by unfold okJ; omega) (by omega) (by omega)) (after_ret ?_)
          refine x_nmI (fun x3 e_x3 => ?_)
          refine x_istore (L' := [(8, vI x3), (6, vJ x2), (0, vA c1), (1, vA c2), (2, vI p), (3, vI x1), (4, vI w), (5, vI t)]) dX4_longestWait_53 (Nat.le_of_ble_eq_true rfl) rfl ?_
          refine x_iload 0 dX4_longestWait_55 rfl ?_
          refine x_iconst dX4_longestWait_57 (okI_c rfl) ?_
          refine x_icmp_ne 63 dX4_longestWait_58 (by decide) (fun c_58 => ?_) (fun c_58 => ?_)
          · refine x_iload 0 dX4_longestWait_63 rfl ?_
            refine x_iload 7 dX4_longestWait_65 rfl ?_
            refine x_isub dX4_longestWait_67 (by have hne : spanS (cval T1 D1 C1 am1) (cval T2 D2 C2 am2) t ≠ -1 := (fun q => c_58 (by rw [e_x3, e_x2]; exact q)); have hsp := span_gt (F := (cval T1 D1 C1 am1)) (G := (cval T2 D2 C2 am2)) (t := t) (x := t + w) (by omega) (fun a b q1 q2 => cval_mono hok2 q1 q2) (by rw [← e_x2]; exact c_38) hne; have e3 : x3 = spanS (cval T1 D1 C1 am1) (cval T2 D2 C2 am2) t := (by rw [e_x3, e_x2]; rfl); unfold okI; omega) ?_
            refine x_nmI (fun x4 e_x4 => ?_)
            refine x_istore (L' := [(4, vI x4), (8, vI x3), (6, vJ x2), (0, vA c1), (1, vA c2), (2, vI p), (3, vI x1), (5, vI t)]) dX4_longestWait_68 (Nat.le_of_ble_eq_true rfl) rfl ?_
            refine x_iinc 7 (L' := [(5, vI (t + 1)), (4, vI x4), (8, vI x3), (6, vJ x2), (0, vA c1), (1, vA c2), (2, vI p), (3, vI x1)]) dX4_longestWait_70 rfl (by unfold okI; omega) (Nat.le_of_ble_eq_true rfl) rfl ?_
            refine x_goto 13 dX4_longestWait_73 (by decide) ?_
            have hne : spanS (cval T1 D1 C1 am1) (cval T2 D2 C2 am2) t ≠ -1 := fun q => c_58 (by rw [e_x3, e_x2]; exact q)
            have hsp := span_gt (F := (cval T1 D1 C1 am1)) (G := (cval T2 D2 C2 am2)) (t := t) (x := t + w) (by omega) (fun a b q1 q2 => cval_mono hok2 q1 q2) (by rw [← e_x2]; exact c_38) hne
            have e3 : x3 = spanS (cval T1 D1 C1 am1) (cval T2 D2 C2 am2) t := by rw [e_x3, e_x2]; rfl
            exact EX.pick [4, 5, 6, 7, 1, 0] rfl (ih_13 x4 (t + 1)  (by omega) (by omega) (by omega) (by omega) (by omega) (fun y q1 q2 => by by_cases q : y < t; exact hall y q1 q; have e : y = t := (by omega); rw [e]; first | exact hne | omega) (by rw [sup0_s ht0, ← hw]; omega))
          · refine x_iconst dX4_longestWait_61 (okI_c rfl) ?_
            exact x_ireturn dX4_longestWait_62 rfl (by decide) (by decide) (retI (waitS_f ht0 (by omega) (by have := c_58; rw [e_x3, e_x2] at this; exact this)).symm)
  exact EX.pick [3, 4, 5, 2, 1, 0] rfl (loop_13 ((x1 - (0 : Int)).toNat + 1) 0 0  (Nat.lt_succ_self _) (by omega) (by omega) (by omega) (by omega) (fun y q1 q2 => by omega) rfl)
