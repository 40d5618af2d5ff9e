/-! ===== Tally, Curve and its kinds ===== -/
theorem mulB {x y X Y : Int} (hx : 0 ≤ x) (hy : 0 ≤ y) (hX : x ≤ X) (hY : y ≤ Y) : 0 ≤ x * y ∧ x * y ≤ X * Y :=
  ⟨Int.mul_nonneg hx hy, Int.mul_le_mul hX hY hy (Int.le_trans hx hX)⟩
theorem divB {x y : Int} (hx : 0 ≤ x) (hy : 0 < y) : 0 ≤ x / y ∧ x / y ≤ x := ⟨Int.ediv_nonneg hx (by omega), Int.ediv_le_self _ hx⟩
theorem modB {x y : Int} (hy : 0 < y) : 0 ≤ x % y ∧ x % y < y := ⟨Int.emod_nonneg _ (by omega), Int.emod_lt_of_pos _ hy⟩
set_option maxRecDepth 100000 in
set_option maxHeartbeats 4000000 in
theorem k_X8_mark {G : aG} {d : Nat} {h : aH} {t mk : Nat} {g : Nat → Int} {b : Int} (ht : h t = some (eO 7 [vA mk])) (hm : h mk = some (eI 5 g)) (hb0 : 0 ≤ b) (hb : b < 5) (hg : okI (g b.toNat + 1)) : MC G mX8_mark d 0 0 [vA t, vI b] h (Voi (hset h mk (eI 5 (va_up g b.toNat (g b.toNat + 1))))) := by
  refine MC.of (by decide) (Nat.le_of_ble_eq_true rfl) (fun ok okh => ?_)
  show EX G mX8_mark d 0 0 _ 0 [(0, vA t), (1, vI b)] [] h 0 0
  refine x_iload_n 1 dX8_mark_0 rfl rfl ?_
  refine x_if_lt 23 dX8_mark_1 (by decide) (fun c_1 => (by exfalso; omega)) (fun c_1 => ?_)
  refine x_iload_n 1 dX8_mark_4 rfl rfl ?_
  refine x_aload_n 0 dX8_mark_5 rfl rfl ?_
  refine x_get 0 dX8_mark_6 fl_X8_9 ht rfl ?_
  refine x_alenI dX8_mark_9 hm (by omega) ?_
  refine x_icmp_ge 23 dX8_mark_10 (by decide) (fun c_10 => (by exfalso; omega)) (fun c_10 => ?_)
  refine x_aload_n 0 dX8_mark_13 rfl rfl ?_
  refine x_get 0 dX8_mark_14 fl_X8_9 ht rfl ?_
  refine x_iload_n 1 dX8_mark_17 rfl rfl ?_
  refine x_dup2 dX8_mark_18 rfl rfl ?_
  refine x_iaload dX8_mark_19 hm (by omega) (by omega) ?_
  refine x_iconst dX8_mark_20 (okI_c rfl) ?_
  refine x_iadd dX8_mark_21 hg ?_
  refine x_iastore dX8_mark_22 hm (by omega) (by omega) ?_
  exact x_return dX8_mark_23 rfl (by decide) (by decide) ⟨rfl, rfl⟩
set_option maxRecDepth 100000 in
set_option maxHeartbeats 4000000 in
theorem k_X8_marks {G : aG} {d : Nat} {h : aH} {t mk : Nat} {g : Nat → Int} {b : Int} (ht : h t = some (eO 7 [vA mk])) (hm : h mk = some (eI 5 g)) (hb0 : 0 ≤ b) (hb : b < 5) : MC G mX8_marks d 0 0 [vA t, vI b] h (Ret (vI (g b.toNat)) h) := by
  refine MC.of (by decide) (Nat.le_of_ble_eq_true rfl) (fun ok okh => ?_)
  show EX G mX8_marks d 0 0 _ 0 [(0, vA t), (1, vI b)] [] h 0 0
  refine x_iload_n 1 dX8_marks_0 rfl rfl ?_
  refine x_if_lt 13 dX8_marks_1 (by decide) (fun c_1 => (by exfalso; omega)) (fun c_1 => ?_)
  refine x_iload_n 1 dX8_marks_4 rfl rfl ?_
  refine x_aload_n 0 dX8_marks_5 rfl rfl ?_
  refine x_get 0 dX8_marks_6 fl_X8_9 ht rfl ?_
  refine x_alenI dX8_marks_9 hm (by omega) ?_
  refine x_icmp_lt 17 dX8_marks_10 (by decide) (fun c_10 => ?_) (fun c_10 => (by exfalso; omega))
  refine x_aload_n 0 dX8_marks_17 rfl rfl ?_
  refine x_get 0 dX8_marks_18 fl_X8_9 ht rfl ?_
  refine x_iload_n 1 dX8_marks_21 rfl rfl ?_
  refine x_iaload dX8_marks_22 hm (by omega) (by omega) ?_
  exact x_ireturn dX8_marks_23 rfl (by decide) (by decide) ⟨rfl, rfl⟩
set_option maxRecDepth 100000 in
set_option maxHeartbeats 4000000 in
theorem k_X1_amount {G : aG} {d : Nat} {h : aH} {c ci a : Nat} {T D C ld : Int} {am : Nat → Int} (hcv : CvAt h c ci a T D C am ld) (hok : CvOk T D C am) {t : Int} (ht0 : 0 ≤ t) : MC G mX1_amount d 0 0 [vA c, vI t] h (Ret (vJ (cval T D C am t)) h) := by
  obtain ⟨hT0, hT2, hD0, hD6, hC0, hC1, hA, hM, hW⟩ := id hok
  refine MC.of (by decide) (Nat.le_of_ble_eq_true rfl) (fun ok okh => ?_)
  show EX G mX1_amount d 0 0 _ 0 [(0, vA c), (1, vI t)] [] h 0 0
  have okt : okI t := ok (vI t) (by simp)
  unfold okI at okt
  refine x_iload_n 1 dX1_amount_0 rfl rfl ?_
  refine x_if_lt 12 dX1_amount_1 (by decide) (fun c_1 => (by exfalso; omega)) (fun c_1 => ?_)
  refine x_aload_n 0 dX1_amount_4 rfl rfl ?_
  refine x_get 1 dX1_amount_5 (fl_X1_15 _ hcv.2.2) hcv.1 rfl ?_
  refine x_iconst dX1_amount_8 (okI_c rfl) ?_
  refine x_icmp_ge 14 dX1_amount_9 (by decide) (fun c_9 => ?_) (fun c_9 => (by exfalso; omega))
  refine x_iload_n 1 dX1_amount_14 rfl rfl ?_
  refine x_aload_n 0 dX1_amount_15 rfl rfl ?_
  refine x_get 3 dX1_amount_16 (fl_X1_21 _ hcv.2.2) hcv.1 rfl ?_
  refine x_alenJ dX1_amount_19 hcv.2.1 (by omega) ?_
  refine x_icmp_ge 30 dX1_amount_20 (by decide) (fun c_20 => ?_) (fun c_20 => ?_)
  · refine x_iload_n 1 dX1_amount_30 rfl rfl ?_
    refine x_aload_n 0 dX1_amount_31 rfl rfl ?_
    refine x_get 0 dX1_amount_32 (fl_X1_9 _ hcv.2.2) hcv.1 rfl ?_
    refine x_isub dX1_amount_35 (by unfold okI; omega) ?_
    refine x_nmI (fun x1 e_x1 => ?_)
    refine x_istore_n (L' := [(2, vI x1), (0, vA c), (1, vI t)]) dX1_amount_36 rfl (Nat.le_of_ble_eq_true rfl) rfl ?_
    refine x_aload_n 1 dX1_amount_37 rfl rfl ?_
    refine x_get 0 dX1_amount_38 (fl_X1_9 _ hcv.2.2) hcv.1 rfl ?_
    refine x_iload_n 0 dX1_amount_41 rfl rfl ?_
    refine x_aload_n 1 dX1_amount_42 rfl rfl ?_
    refine x_get 1 dX1_amount_43 (fl_X1_15 _ hcv.2.2) hcv.1 rfl ?_
    
    refine x_irem dX1_amount_46 (by omega) (by omega) ?_
    have hmb := modB (x := x1) (show 0 < D by omega)
    refine x_iadd dX1_amount_47 (by unfold okI; omega) ?_
    refine x_nmI (fun x2 e_x2 => ?_)
    refine x_istore_n (L' := [(3, vI x2), (2, vI x1), (0, vA c), (1, vI t)]) dX1_amount_48 rfl (Nat.le_of_ble_eq_true rfl) rfl ?_
    refine x_iload_n 0 dX1_amount_49 rfl rfl ?_
    refine x_if_lt 62 dX1_amount_50 (by decide) (fun c_50 => (by exfalso; omega)) (fun c_50 => ?_)
    refine x_iload_n 0 dX1_amount_53 rfl rfl ?_
    refine x_aload_n 2 dX1_amount_54 rfl rfl ?_
    refine x_get 3 dX1_amount_55 (fl_X1_21 _ hcv.2.2) hcv.1 rfl ?_
    refine x_alenJ dX1_amount_58 hcv.2.1 (by omega) ?_
    refine x_icmp_lt 64 dX1_amount_59 (by decide) (fun c_59 => ?_) (fun c_59 => (by exfalso; omega))
    refine x_aload_n 2 dX1_amount_64 rfl rfl ?_
    refine x_get 3 dX1_amount_65 (fl_X1_21 _ hcv.2.2) hcv.1 rfl ?_
    refine x_iload_n 0 dX1_amount_68 rfl rfl ?_
    refine x_laload dX1_amount_69 hcv.2.1 (by omega) (by omega) ?_
    refine x_iload_n 1 dX1_amount_70 rfl rfl ?_
    refine x_aload_n 2 dX1_amount_71 rfl rfl ?_
    refine x_get 1 dX1_amount_72 (fl_X1_15 _ hcv.2.2) hcv.1 rfl ?_
    refine x_idiv dX1_amount_75 (by omega) (by omega) ?_
    refine x_i2l dX1_amount_76 ?_
    refine x_aload_n 2 dX1_amount_77 rfl rfl ?_
    refine x_get 2 dX1_amount_78 (fl_X1_18 _ hcv.2.2) hcv.1 rfl ?_
    refine x_i2l dX1_amount_81 ?_
    have hqc := divB (x := x1) (show 0 ≤ x1 by omega) (show 0 < D by omega)
    have hmu := mulB (x := x1 / D) (y := C) (X := 2147483647) (Y := 1000000000) hqc.1 hC0 (by omega) hC1
    refine x_lmul dX1_amount_82 (by unfold okJ; omega) ?_
    have hqb := divB (x := x1) (show 0 ≤ x1 by omega) (show 0 < D by omega)
    have hq2 := hA x2 (by omega) (by omega)
    refine x_ladd dX1_amount_83 (by unfold okJ; omega) ?_
    exact x_lreturn dX1_amount_84 rfl (by decide) (by decide) (retJ (by rw [cval, if_neg (by omega), e_x2, e_x1]))
  · refine x_aload_n 0 dX1_amount_23 rfl rfl ?_
    refine x_get 3 dX1_amount_24 (fl_X1_21 _ hcv.2.2) hcv.1 rfl ?_
    refine x_iload_n 1 dX1_amount_27 rfl rfl ?_
    refine x_laload dX1_amount_28 hcv.2.1 (by omega) (by omega) ?_
    exact x_lreturn dX1_amount_29 rfl (by decide) (by decide) (retJ (by rw [cval, if_pos (by omega)]))
set_option maxRecDepth 100000 in
set_option maxHeartbeats 4000000 in
theorem k_X1_gainIn {G : aG} {d : Nat} {h : aH} {c ci a : Nat} {T D C ld : Int} {am : Nat → Int} (hcv : CvAt h c ci a T D C am ld) (hok : CvOk T D C am) {p : Int} (hp0 : 0 ≤ p) (hp : p ≤ 1000) : MC G mX1_gainIn d 0 0 [vA c, vI p] h (Ret (vJ (C * (p / D))) h) := by
  obtain ⟨hT0, hT2, hD0, hD6, hC0, hC1, hA, hM, hW⟩ := id hok
  refine MC.of (by decide) (Nat.le_of_ble_eq_true rfl) (fun ok okh => ?_)
  show EX G mX1_gainIn d 0 0 _ 0 [(0, vA c), (1, vI p)] [] h 0 0
  refine x_aload_n 0 dX1_gainIn_0 rfl rfl ?_
  refine x_get 1 dX1_gainIn_1 (fl_X1_15 _ hcv.2.2) hcv.1 rfl ?_
  refine x_iconst dX1_gainIn_4 (okI_c rfl) ?_
  refine x_icmp_ge 12 dX1_gainIn_5 (by decide) (fun c_5 => ?_) (fun c_5 => (by exfalso; omega))
  refine x_aload_n 0 dX1_gainIn_12 rfl rfl ?_
  refine x_get 2 dX1_gainIn_13 (fl_X1_18 _ hcv.2.2) hcv.1 rfl ?_
  refine x_i2l dX1_gainIn_16 ?_
  refine x_iload_n 1 dX1_gainIn_17 rfl rfl ?_
  refine x_aload_n 0 dX1_gainIn_18 rfl rfl ?_
  refine x_get 1 dX1_gainIn_19 (fl_X1_15 _ hcv.2.2) hcv.1 rfl ?_
  refine x_idiv dX1_gainIn_22 (by omega) (by omega) ?_
  refine x_i2l dX1_gainIn_23 ?_
  have hqb := divB (x := p) hp0 (show 0 < D by omega)
  have hmu := mulB (x := C) (y := p / D) (X := 1000000000) (Y := 1000) hC0 hqb.1 hC1 (by omega)
  refine x_lmul dX1_gainIn_24 (by unfold okJ; omega) ?_
  exact x_lreturn dX1_gainIn_25 rfl (by decide) (by decide) ⟨rfl, rfl⟩
/-- a divisor that no greater one of the numbers is, is the greatest -/
theorem gcd_of {g s d : Int} (hg : 0 ≤ g) (hd : 1 ≤ d) (hds : d ≤ s) (h1 : g % d = 0) (h2 : s % d = 0) (hmax : ∀ e : Int, d < e → e ≤ s → ¬ (g % e = 0 ∧ s % e = 0)) : d = ((Int.gcd g s : Nat) : Int) := by
  have hdvd : d ∣ ((Int.gcd g s : Nat) : Int) := Int.dvd_coe_gcd (Int.dvd_of_emod_eq_zero h1) (Int.dvd_of_emod_eq_zero h2)
  have hpos : 0 < Int.gcd g s := Int.gcd_pos_of_ne_zero_right _ (by omega)
  have hle : d ≤ ((Int.gcd g s : Nat) : Int) := Int.le_of_dvd (by omega) hdvd
  have hgs : ((Int.gcd g s : Nat) : Int) ≤ s := Int.le_of_dvd (by omega) (Int.gcd_dvd_right g s)
  rcases Int.lt_or_eq_of_le hle with q | q
  · exact absurd ⟨Int.emod_eq_zero_of_dvd (Int.gcd_dvd_left g s), Int.emod_eq_zero_of_dvd (Int.gcd_dvd_right g s)⟩ (hmax _ q hgs)
  · exact q
set_option maxRecDepth 100000 in
set_option maxHeartbeats 4000000 in
theorem k_X1_shared {G : aG} {d : Nat} {h : aH} {c ci a : Nat} {T D C ld : Int} {am : Nat → Int} (hcv : CvAt h c ci a T D C am ld) (hok : CvOk T D C am) : MC G mX1_sharedByGainAndStep d 0 0 [vA c] h (Ret (vI ((Int.gcd C D : Nat) : Int)) h) := by
  obtain ⟨hT0, hT2, hD0, hD6, hC0, hC1, hA, hM, hW⟩ := id hok
  refine MC.of (by decide) (Nat.le_of_ble_eq_true rfl) (fun ok okh => ?_)
  show EX G mX1_sharedByGainAndStep d 0 0 _ 0 [(0, vA c)] [] h 0 0
  refine x_aload_n 0 dX1_sharedByGainAndStep_0 rfl rfl ?_
  refine x_get 1 dX1_sharedByGainAndStep_1 (fl_X1_15 _ hcv.2.2) hcv.1 rfl ?_
  refine x_istore_n (L' := [(1, vI D), (0, vA c)]) dX1_sharedByGainAndStep_4 rfl (Nat.le_of_ble_eq_true rfl) rfl ?_
  have loop_5 : ∀ (k_5 : Nat) (e : Int) , (e).toNat < k_5 → 1 ≤ e → e ≤ D → (∀ z : Int, e < z → z ≤ D → ¬ (C % z = 0 ∧ D % z = 0)) → EX G mX1_sharedByGainAndStep d 0 0 (Ret (vI ((Int.gcd C D : Nat) : Int)) h) 5 [(0, vA c), (1, vI e)] [] h 0 0 := by
    intro k_5
    induction k_5 with
    | zero => intro e hm; exact absurd hm (Nat.not_lt_zero _)
    | succ k_5 ih_5 =>
      intro e hm_5 he0 heD hmx
      refine x_iload_n 1 dX1_sharedByGainAndStep_5 rfl rfl ?_
      refine x_iconst dX1_sharedByGainAndStep_6 (okI_c rfl) ?_
      refine x_icmp_le 36 dX1_sharedByGainAndStep_7 (by decide) (fun c_7 => ?_) (fun c_7 => ?_)
      · refine x_iconst dX1_sharedByGainAndStep_36 (okI_c rfl) ?_
        exact x_ireturn dX1_sharedByGainAndStep_37 rfl (by decide) (by decide) (retI (gcd_of hC0 (Int.le_refl 1) hD0 (Int.emod_one _) (Int.emod_one _) (fun z q1 q2 => hmx z (by omega) q2)))
      · refine x_aload_n 0 dX1_sharedByGainAndStep_10 rfl rfl ?_
        refine x_get 2 dX1_sharedByGainAndStep_11 (fl_X1_18 _ hcv.2.2) hcv.1 rfl ?_
        refine x_iload_n 1 dX1_sharedByGainAndStep_14 rfl rfl ?_
        refine x_irem dX1_sharedByGainAndStep_15 (by omega) (by omega) ?_
        refine x_if_ne 30 dX1_sharedByGainAndStep_16 (by decide) (fun c_16 => ?_) (fun c_16 => ?_)
        · refine x_iinc 1 (L' := [(1, vI (e + (-1))), (0, vA c)]) dX1_sharedByGainAndStep_30 rfl (by unfold okI; omega) (Nat.le_of_ble_eq_true rfl) rfl ?_
          refine x_goto 5 dX1_sharedByGainAndStep_33 (by decide) ?_
          exact EX.pick [1, 0] rfl (ih_5 (e + (-1))  (by omega) (by omega) (by omega) (fun z q1 q2 q3 => by rcases Int.lt_or_eq_of_le (show e ≤ z by omega) with q | q; exact hmx z q q2 q3; subst q; omega))
        · refine x_aload_n 0 dX1_sharedByGainAndStep_19 rfl rfl ?_
          refine x_get 1 dX1_sharedByGainAndStep_20 (fl_X1_15 _ hcv.2.2) hcv.1 rfl ?_
          refine x_iload_n 1 dX1_sharedByGainAndStep_23 rfl rfl ?_
          refine x_irem dX1_sharedByGainAndStep_24 (by omega) (by omega) ?_
          refine x_if_ne 30 dX1_sharedByGainAndStep_25 (by decide) (fun c_25 => ?_) (fun c_25 => ?_)
          · refine x_iinc 1 (L' := [(1, vI (e + (-1))), (0, vA c)]) dX1_sharedByGainAndStep_30 rfl (by unfold okI; omega) (Nat.le_of_ble_eq_true rfl) rfl ?_
            refine x_goto 5 dX1_sharedByGainAndStep_33 (by decide) ?_
            exact EX.pick [1, 0] rfl (ih_5 (e + (-1))  (by omega) (by omega) (by omega) (fun z q1 q2 q3 => by rcases Int.lt_or_eq_of_le (show e ≤ z by omega) with q | q; exact hmx z q q2 q3; subst q; omega))
          · refine x_iload_n 1 dX1_sharedByGainAndStep_28 rfl rfl ?_
            exact x_ireturn dX1_sharedByGainAndStep_29 rfl (by decide) (by decide) (retI (gcd_of hC0 he0 heD c_16 c_25 hmx))
  exact EX.pick [1, 0] rfl (loop_5 (((D : Int)).toNat + 1) D  (Nat.lt_succ_self _) (by omega) (by omega) (fun z q1 q2 => absurd q1 (by omega)))
theorem hset_hset (h : aH) (a : Nat) (e f : aE) : hset (hset h a e) a f = hset h a f := by
  funext b; by_cases hb : b = a <;> simp [hset, hb]
theorem neOI {h : aH} {x y ci n : Nat} {fs : List aV} {g : Nat → Int} (hx : h x = some (eO ci fs)) (hy : h y = some (eI n g)) : x ≠ y := by
  rintro rfl; rw [hx] at hy; cases hy
theorem neOJ {h : aH} {x y ci n : Nat} {fs : List aV} {g : Nat → Int} (hx : h x = some (eO ci fs)) (hy : h y = some (eJ n g)) : x ≠ y := by
  rintro rfl; rw [hx] at hy; cases hy
theorem neOR {h : aH} {x y ci n : Nat} {fs : List aV} {g : Nat → Option Nat} (hx : h x = some (eO ci fs)) (hy : h y = some (eR n g)) : x ≠ y := by
  rintro rfl; rw [hx] at hy; cases hy
theorem neJI {h : aH} {x y m n : Nat} {f g : Nat → Int} (hx : h x = some (eJ m f)) (hy : h y = some (eI n g)) : x ≠ y := by
  rintro rfl; rw [hx] at hy; cases hy
theorem neJR {h : aH} {x y m n : Nat} {f : Nat → Int} {g : Nat → Option Nat} (hx : h x = some (eJ m f)) (hy : h y = some (eR n g)) : x ≠ y := by
  rintro rfl; rw [hx] at hy; cases hy
theorem neIR {h : aH} {x y m n : Nat} {f : Nat → Int} {g : Nat → Option Nat} (hx : h x = some (eI m f)) (hy : h y = some (eR n g)) : x ≠ y := by
  rintro rfl; rw [hx] at hy; cases hy
theorem neOO {h : aH} {x y ci cj : Nat} {fs gs : List aV} (hx : h x = some (eO ci fs)) (hy : h y = some (eO cj gs)) (hc : ci ≠ cj) : x ≠ y := by
  rintro rfl; rw [hx] at hy; cases hy; exact hc rfl
theorem CvAt.keep {h : aH} {c ci a b : Nat} {T D C ld : Int} {am : Nat → Int} {e : aE} (k : CvAt h c ci a T D C am ld) (h1 : c ≠ b) (h2 : a ≠ b) : CvAt (hset h b e) c ci a T D C am ld :=
  ⟨(hset_ne _ _ h1).trans k.1, (hset_ne _ _ h2).trans k.2.1, k.2.2⟩
theorem CvAt.keepI {h : aH} {c ci a b n : Nat} {T D C ld : Int} {am : Nat → Int} {g : Nat → Int} {e : aE} (k : CvAt h c ci a T D C am ld) (hb : h b = some (eI n g)) : CvAt (hset h b e) c ci a T D C am ld :=
  k.keep (neOI k.1 hb) (neJI k.2.1 hb)
set_option maxRecDepth 100000 in
set_option maxHeartbeats 4000000 in
theorem k_X1_first {G : aG} {d : Nat} (hd : 1 ≤ d) {h : aH} {c ci a : Nat} {T D C ld : Int} {am : Nat → Int} (hcv : CvAt h c ci a T D C am ld) (hok : CvOk T D C am) {v last : Int} (hv : okJ v) (hl0 : 0 ≤ last) (hl1 : last ≤ 1000001000) : MC G mX1_firstReaching d 0 0 [vA c, vJ v, vI last] h (Ret (vI (firstS (cval T D C am) v last)) h) := by
  refine MC.of (by decide) (Nat.le_of_ble_eq_true rfl) (fun ok okh => ?_)
  show EX G mX1_firstReaching d 0 0 _ 0 [(0, vA c), (1, vJ v), (3, vI last)] [] h 0 0
  refine x_iconst dX1_firstReaching_0 (okI_c rfl) ?_
  refine x_istore (L' := [(4, vI ((-1))), (0, vA c), (1, vJ v), (3, vI last)]) dX1_firstReaching_1 (Nat.le_of_ble_eq_true rfl) rfl ?_
  refine x_bipush dX1_firstReaching_3 (okI_c rfl) (by decide +kernel) ?_
  refine x_istore (L' := [(5, vI 30), (4, vI ((-1))), (0, vA c), (1, vJ v), (3, vI last)]) dX1_firstReaching_5 (Nat.le_of_ble_eq_true rfl) rfl ?_
  have loop_7 : ∀ (k_7 : Nat) (u : Int) (b : Int) , (b + 1).toNat < k_7 → -1 ≤ u → u ≤ last → -1 ≤ b → b ≤ 30 → (∀ t : Int, 0 ≤ t → t ≤ u → cval T D C am t < v) → (∀ t : Int, u + 2 ^ (b + 1).toNat ≤ t → t ≤ last → v ≤ cval T D C am t) → EX G mX1_firstReaching d 0 0 (Ret (vI (firstS (cval T D C am) v last)) h) 7 [(0, vA c), (1, vJ v), (3, vI last), (4, vI u), (5, vI b)] [] h 0 0 := by
    intro k_7
    induction k_7 with
    | zero => intro u b hm; exact absurd hm (Nat.not_lt_zero _)
    | succ k_7 ih_7 =>
      intro u b hm_7 hu0 hul hb0 hb1 hlo hhi
      refine x_iload 4 dX1_firstReaching_7 rfl ?_
      
      refine x_if_lt 48 dX1_firstReaching_9 (by decide) (fun c_9 => ?_) (fun c_9 => ?_)
      · have hps : (2 : Int) ^ (b + 1).toNat = 1 := by rw [show (b + 1).toNat = 0 by omega]; rfl
        refine x_iload 3 dX1_firstReaching_48 rfl ?_
        refine x_iload_n 2 dX1_firstReaching_50 rfl rfl ?_
        refine x_icmp_ge 61 dX1_firstReaching_51 (by decide) (fun c_51 => ?_) (fun c_51 => ?_)
        · refine x_iconst dX1_firstReaching_61 (okI_c rfl) ?_
          exact x_ireturn dX1_firstReaching_62 rfl (by decide) (by decide) (retI (First.eq (Or.inl ⟨rfl, fun t q1 q2 => hlo t q1 (by omega)⟩)))
        · refine x_iload 3 dX1_firstReaching_54 rfl ?_
          refine x_iconst dX1_firstReaching_56 (okI_c rfl) ?_
          refine x_iadd dX1_firstReaching_57 (by unfold okI; omega) ?_
          refine x_goto 62 dX1_firstReaching_58 (by decide) ?_
          exact x_ireturn dX1_firstReaching_62 rfl (by decide) (by decide) (retI (First.eq (Or.inr ⟨by omega, by omega, hhi _ (by omega) (by omega), fun t q1 q2 => hlo t q1 (by omega)⟩)))
      · refine x_iload 3 dX1_firstReaching_12 rfl ?_
        refine x_iconst dX1_firstReaching_14 (okI_c rfl) ?_
        refine x_iload 4 dX1_firstReaching_15 rfl ?_
        refine x_ishl (v := 2 ^ b.toNat) dX1_firstReaching_17 (by have := pow_le (b := b) (by omega) hb1; unfold okI; omega) (shl1 (by omega) hb1) ?_
        have hpw := pow_le (b := b) (by omega) hb1
        have hps := pow_s (b := b) (by omega)
        refine x_iadd dX1_firstReaching_18 (by unfold okI; omega) ?_
        refine x_nmI (fun x1 e_x1 => ?_)
        refine x_istore (L' := [(6, vI x1), (0, vA c), (1, vJ v), (3, vI last), (4, vI u), (5, vI b)]) dX1_firstReaching_19 (Nat.le_of_ble_eq_true rfl) rfl ?_
        refine x_iload 0 dX1_firstReaching_21 rfl ?_
        refine x_iload_n 3 dX1_firstReaching_23 rfl rfl ?_
        refine x_icmp_gt 42 dX1_firstReaching_24 (by decide) (fun c_24 => ?_) (fun c_24 => ?_)
        · refine x_iinc 5 (L' := [(5, vI (b + (-1))), (6, vI x1), (0, vA c), (1, vJ v), (3, vI last), (4, vI u)]) dX1_firstReaching_42 rfl (by unfold okI; omega) (Nat.le_of_ble_eq_true rfl) rfl ?_
          refine x_goto 7 dX1_firstReaching_45 (by decide) ?_
          exact EX.pick [2, 3, 4, 5, 0] rfl (ih_7 u (b + (-1))  (by omega) (by omega) (by omega) (by omega) (by omega) (fun t q1 q2 => hlo t q1 q2) (fun t q1 q2 => by rw [show b + -1 + 1 = b by omega] at q1; first | omega | (have := cval_mono hok (show 0 ≤ x1 by omega) (show x1 ≤ t by omega); omega)))
        · refine x_aload_n 1 dX1_firstReaching_27 rfl rfl ?_
          refine x_iload 0 dX1_firstReaching_28 rfl ?_
          refine x_callU [vI x1] dX1_firstReaching_30 (ku_X1_31 _ hcv.2.2) rfl rfl hcv.1 (by omega) (Nat.le_of_ble_eq_true rfl) (by omega) (by omega) (k_X1_amount hcv hok (t := x1) (by omega)) (after_ret ?_)
          refine x_lload_n 2 dX1_firstReaching_33 rfl rfl ?_
          refine x_lc_ge 42 dX1_firstReaching_34 dX1_firstReaching_35 (by decide) (fun c_34 => ?_) (fun c_34 => ?_)
          · refine x_iinc 5 (L' := [(5, vI (b + (-1))), (6, vI x1), (0, vA c), (1, vJ v), (3, vI last), (4, vI u)]) dX1_firstReaching_42 rfl (by unfold okI; omega) (Nat.le_of_ble_eq_true rfl) rfl ?_
            refine x_goto 7 dX1_firstReaching_45 (by decide) ?_
            exact EX.pick [2, 3, 4, 5, 0] rfl (ih_7 u (b + (-1))  (by omega) (by omega) (by omega) (by omega) (by omega) (fun t q1 q2 => hlo t q1 q2) (fun t q1 q2 => by rw [show b + -1 + 1 = b by omega] at q1; first | omega | (have := cval_mono hok (show 0 ≤ x1 by omega) (show x1 ≤ t by omega); omega)))
          · refine x_iload 0 dX1_firstReaching_38 rfl ?_
            refine x_istore (L' := [(4, vI x1), (6, vI x1), (0, vA c), (1, vJ v), (3, vI last), (5, vI b)]) dX1_firstReaching_40 (Nat.le_of_ble_eq_true rfl) rfl ?_
            refine x_iinc 5 (L' := [(5, vI (b + (-1))), (4, vI x1), (6, vI x1), (0, vA c), (1, vJ v), (3, vI last)]) dX1_firstReaching_42 rfl (by unfold okI; omega) (Nat.le_of_ble_eq_true rfl) rfl ?_
            refine x_goto 7 dX1_firstReaching_45 (by decide) ?_
            exact EX.pick [3, 4, 5, 1, 0] rfl (ih_7 x1 (b + (-1))  (by omega) (by omega) (by omega) (by omega) (by omega) (fun t q1 q2 => by by_cases q : t ≤ u; exact hlo t q1 q; have := cval_mono hok q1 (show t ≤ x1 by omega); omega) (fun t q1 q2 => hhi t (by rw [show b + -1 + 1 = b by omega] at q1; omega) q2))
  exact EX.pick [2, 3, 4, 1, 0] rfl (loop_7 (((30 : Int) + 1).toNat + 1) (-1) 30  (Nat.lt_succ_self _) (by omega) (by omega) (by omega) (by omega) (fun t q1 q2 => by omega) (fun t q1 q2 => by have : ((2 : Int) ^ (30 + 1 : Int).toNat) = 2147483648  := (by decide); omega))
set_option maxRecDepth 100000 in
set_option maxHeartbeats 4000000 in
theorem k_X1_isClosed {G : aG} {d : Nat} (hd : 1 ≤ d) {h : aH} {c ci a : Nat} {T D C ld : Int} {am : Nat → Int} (hcv : CvAt h c ci a T D C am ld) (hok : CvOk T D C am) : MC G mX1_isClosed d 0 0 [vA c] h (Ret (vI (b2i (Closed T D C am))) h) := by
  obtain ⟨hT0, hT2, hD0, hD6, hC0, hC1, hA, hM, hW⟩ := id hok
  refine MC.of (by decide) (Nat.le_of_ble_eq_true rfl) (fun ok okh => ?_)
  show EX G mX1_isClosed d 0 0 _ 0 [(0, vA c)] [] h 0 0
  refine x_aload_n 0 dX1_isClosed_0 rfl rfl ?_
  refine x_iconst dX1_isClosed_1 (okI_c rfl) ?_
  refine x_callU [vI 0] dX1_isClosed_2 (ku_X1_31 _ hcv.2.2) rfl rfl hcv.1 (by omega) (Nat.le_of_ble_eq_true rfl) (by omega) (by omega) (k_X1_amount hcv hok (t := 0) (by omega)) (after_ret ?_)
  refine x_lconst (x := 0) dX1_isClosed_5 (okJ_c rfl) rfl ?_
  refine x_lc_eq 12 dX1_isClosed_6 dX1_isClosed_7 (by decide) (fun c_6 => ?_) (fun c_6 => ?_)
  · refine x_iconst dX1_isClosed_12 (okI_c rfl) ?_
    refine x_istore_n (L' := [(1, vI 1), (0, vA c)]) dX1_isClosed_13 rfl (Nat.le_of_ble_eq_true rfl) rfl ?_
    have loop_14 : ∀ (k_14 : Nat) (s : Int) , (T + D - s).toNat < k_14 → 1 ≤ s → s ≤ T + D → (∀ x y : Int, 1 ≤ x → x < s → x ≤ y → y < T + D → cval T D C am (x + y) ≤ am x.toNat + am y.toNat) → EX G mX1_isClosed d 0 0 (Ret (vI (b2i (Closed T D C am))) h) 14 [(0, vA c), (1, vI s)] [] h 0 0 := by
      intro k_14
      induction k_14 with
      | zero => intro s hm; exact absurd hm (Nat.not_lt_zero _)
      | succ k_14 ih_14 =>
        intro s hm_14 hs0 hs1 hall
        refine x_iload_n 1 dX1_isClosed_14 rfl rfl ?_
        refine x_aload_n 0 dX1_isClosed_15 rfl rfl ?_
        refine x_get 3 dX1_isClosed_16 (fl_X1_21 _ hcv.2.2) hcv.1 rfl ?_
        refine x_alenJ dX1_isClosed_19 hcv.2.1 (by omega) ?_
        refine x_icmp_ge 72 dX1_isClosed_20 (by decide) (fun c_20 => ?_) (fun c_20 => ?_)
        · refine x_iconst dX1_isClosed_72 (okI_c rfl) ?_
          exact x_zreturn dX1_isClosed_73 rfl (Or.inr rfl) (by decide) (by decide) (retI (b2i_t ⟨by rw [cval_lt (by omega)] at c_6; exact c_6, fun x y q1 q2 q3 => hall x y q1 (by omega) q2 q3⟩).symm)
        · refine x_iload_n 1 dX1_isClosed_23 rfl rfl ?_
          refine x_istore_n (L' := [(2, vI s), (0, vA c), (1, vI s)]) dX1_isClosed_24 rfl (Nat.le_of_ble_eq_true rfl) rfl ?_
          have loop_25 : ∀ (k_25 : Nat) (t : Int) , (T + D - t).toNat < k_25 → s ≤ t → t ≤ T + D → (∀ y : Int, s ≤ y → y < t → cval T D C am (s + y) ≤ am s.toNat + am y.toNat) → EX G mX1_isClosed d 0 0 (Ret (vI (b2i (Closed T D C am))) h) 25 [(0, vA c), (1, vI s), (2, vI t)] [] h 0 0 := by
            intro k_25
            induction k_25 with
            | zero => intro t hm; exact absurd hm (Nat.not_lt_zero _)
            | succ k_25 ih_25 =>
              intro t hm_25 ht0 ht1 hin
              refine x_iload_n 2 dX1_isClosed_25 rfl rfl ?_
              refine x_aload_n 0 dX1_isClosed_26 rfl rfl ?_
              refine x_get 3 dX1_isClosed_27 (fl_X1_21 _ hcv.2.2) hcv.1 rfl ?_
              refine x_alenJ dX1_isClosed_30 hcv.2.1 (by omega) ?_
              refine x_icmp_ge 66 dX1_isClosed_31 (by decide) (fun c_31 => ?_) (fun c_31 => ?_)
              · refine x_iinc 1 (L' := [(1, vI (s + 1)), (0, vA c), (2, vI t)]) dX1_isClosed_66 rfl (by unfold okI; omega) (Nat.le_of_ble_eq_true rfl) rfl ?_
                refine x_goto 14 dX1_isClosed_69 (by decide) ?_
                exact EX.pick [1, 0] rfl (ih_14 (s + 1)  (by omega) (by omega) (by omega) (fun x y q1 q2 q3 q4 => by by_cases q : x < s; exact hall x y q1 q q3 q4; have e : x = s := (by omega); subst e; exact hin y q3 (by omega)))
              · refine x_aload_n 0 dX1_isClosed_34 rfl rfl ?_
                refine x_iload_n 1 dX1_isClosed_35 rfl rfl ?_
                refine x_iload_n 2 dX1_isClosed_36 rfl rfl ?_
                refine x_iadd dX1_isClosed_37 (by unfold okI; omega) ?_
                refine x_callU [vI (s + t)] dX1_isClosed_38 (ku_X1_31 _ hcv.2.2) rfl rfl hcv.1 (by omega) (Nat.le_of_ble_eq_true rfl) (by omega) (by omega) (k_X1_amount hcv hok (t := s + t) (by omega)) (after_ret ?_)
                refine x_aload_n 0 dX1_isClosed_41 rfl rfl ?_
                refine x_get 3 dX1_isClosed_42 (fl_X1_21 _ hcv.2.2) hcv.1 rfl ?_
                refine x_iload_n 1 dX1_isClosed_45 rfl rfl ?_
                refine x_laload dX1_isClosed_46 hcv.2.1 (by omega) (by omega) ?_
                refine x_aload_n 0 dX1_isClosed_47 rfl rfl ?_
                refine x_get 3 dX1_isClosed_48 (fl_X1_21 _ hcv.2.2) hcv.1 rfl ?_
                refine x_iload_n 2 dX1_isClosed_51 rfl rfl ?_
                refine x_laload dX1_isClosed_52 hcv.2.1 (by omega) (by omega) ?_
                have hb1 := hA s (by omega) (by omega)
                have hb2 := hA t (by omega) (by omega)
                refine x_ladd dX1_isClosed_53 (by unfold okJ; omega) ?_
                refine x_lc_le 60 dX1_isClosed_54 dX1_isClosed_55 (by decide) (fun c_54 => ?_) (fun c_54 => ?_)
                · refine x_iinc 2 (L' := [(2, vI (t + 1)), (0, vA c), (1, vI s)]) dX1_isClosed_60 rfl (by unfold okI; omega) (Nat.le_of_ble_eq_true rfl) rfl ?_
                  refine x_goto 25 dX1_isClosed_63 (by decide) ?_
                  exact EX.pick [1, 2, 0] rfl (ih_25 (t + 1)  (by omega) (by omega) (by omega) (fun y q1 q2 => by by_cases q : y < t; exact hin y q1 q; have e : y = t := (by omega); subst e; exact c_54))
                · refine x_iconst dX1_isClosed_58 (okI_c rfl) ?_
                  exact x_zreturn dX1_isClosed_59 rfl (Or.inl rfl) (by decide) (by decide) (retI (b2i_f (fun q => by have := q.2 s t hs0 ht0 (by omega); omega)).symm)
          exact EX.pick [1, 2, 0] rfl (loop_25 ((T + D - (s : Int)).toNat + 1) s  (Nat.lt_succ_self _) (by omega) (by omega) (fun y q1 q2 => by omega))
    exact EX.pick [1, 0] rfl (loop_14 ((T + D - (1 : Int)).toNat + 1) 1  (Nat.lt_succ_self _) (by omega) (by omega) (fun x y q1 q2 => by omega))
  · refine x_iconst dX1_isClosed_10 (okI_c rfl) ?_
    exact x_zreturn dX1_isClosed_11 rfl (Or.inl rfl) (by decide) (by decide) (retI (b2i_f (fun q => by have := q.1; rw [cval_lt (by omega)] at c_6; exact c_6 this)).symm)
def cvF0 (ci : Nat) : List aV := vI 0 :: vI 0 :: vI 0 :: vN :: (if ci = 0 then [vJ 0] else [])
set_option maxRecDepth 100000 in
set_option maxHeartbeats 4000000 in
theorem k_X1_init {G : aG} {d : Nat} (hd : 1 ≤ d) {h : aH} {c ci a : Nat} {T D C : Int} (hc : h c = some (eO ci (cvF0 ci))) (hci : ci ∈ [0, 1, 2, 4, 6]) : MC G mX1_init d 0 0 [vA c, vI T, vI D, vI C, vA a] h (Voi (hset h c (eO ci (cvF ci T D C a 0)))) := by
  refine MC.of (by decide) (Nat.le_of_ble_eq_true rfl) (fun ok okh => ?_)
  show EX G mX1_init d 0 0 _ 0 [(0, vA c), (1, vI T), (2, vI D), (3, vI C), (4, vA a)] [] h 0 0
  refine x_aload_n 0 dX1_init_0 rfl rfl ?_
  refine x_objInit dX1_init_1 ko_X1_3 (by omega) (Nat.le_of_ble_eq_true rfl) ?_
  refine x_aload_n 0 dX1_init_4 rfl rfl ?_
  refine x_iload_n 1 dX1_init_5 rfl rfl ?_
  refine x_putF 0 dX1_init_6 rfl (pu_X1_9 _ hci) hc rfl rfl (Nat.le_of_ble_eq_true rfl) ?_
  refine x_aload_n 0 dX1_init_9 rfl rfl ?_
  refine x_iload_n 2 dX1_init_10 rfl rfl ?_
  refine x_putF 1 dX1_init_11 rfl (pu_X1_15 _ hci) (hset_eq _ _ _) rfl rfl (Nat.le_of_ble_eq_true rfl) ?_
  refine x_aload_n 0 dX1_init_14 rfl rfl ?_
  refine x_iload_n 3 dX1_init_15 rfl rfl ?_
  refine x_putF 2 dX1_init_16 rfl (pu_X1_18 _ hci) (hset_eq _ _ _) rfl rfl (Nat.le_of_ble_eq_true rfl) ?_
  refine x_aload_n 0 dX1_init_19 rfl rfl ?_
  refine x_aload 4 dX1_init_20 rfl ?_
  refine x_putF 3 dX1_init_22 rfl (pu_X1_21 _ hci) (hset_eq _ _ _) rfl rfl (Nat.le_of_ble_eq_true rfl) ?_
  exact x_return dX1_init_25 rfl (by decide) (by decide) ⟨rfl, by simp only [hset_hset]; rfl⟩
set_option maxRecDepth 100000 in
set_option maxHeartbeats 4000000 in
theorem k_X2_init {G : aG} {d : Nat} (hd : 2 ≤ d) {h : aH} {c a : Nat} {T D C : Int}  (hc : h c = some (eO 2 (cvF0 2))) : MC G mX2_init d 0 0 [vA c, vI T, vI D, vI C, vA a] h (Voi (hset h c (eO 2 (cvF 2 T D C a 0)))) := by
  refine MC.of (by decide) (Nat.le_of_ble_eq_true rfl) (fun ok okh => ?_)
  show EX G mX2_init d 0 0 _ 0 [(0, vA c), (1, vI T), (2, vI D), (3, vI C), (4, vA a)] [] h 0 0
  refine x_aload_n 0 dX2_init_0 rfl rfl ?_
  refine x_iload_n 1 dX2_init_1 rfl rfl ?_
  refine x_iload_n 2 dX2_init_2 rfl rfl ?_
  refine x_iload_n 3 dX2_init_3 rfl rfl ?_
  refine x_aload 4 dX2_init_4 rfl ?_
  refine x_callI [vI T, vI D, vI C, vA a] dX2_init_6 ki_X2_3 rfl rfl (by omega) (Nat.le_of_ble_eq_true rfl) (by omega) (by omega) (k_X1_init (d := 1) (by omega) hc (by decide)) (after_void ?_)
  exact x_return dX2_init_9 rfl (by decide) (by decide) ⟨rfl, rfl⟩
set_option maxRecDepth 100000 in
set_option maxHeartbeats 4000000 in
theorem k_X5_init {G : aG} {d : Nat} (hd : 2 ≤ d) {h : aH} {c a : Nat} {T D C : Int} {ci : Nat} (hci : ci ∈ [0, 1, 2, 4, 6]) (hc : h c = some (eO ci (cvF0 ci))) : MC G mX5_init d 0 0 [vA c, vI T, vI D, vI C, vA a] h (Voi (hset h c (eO ci (cvF ci T D C a 0)))) := by
  refine MC.of (by decide) (Nat.le_of_ble_eq_true rfl) (fun ok okh => ?_)
  show EX G mX5_init d 0 0 _ 0 [(0, vA c), (1, vI T), (2, vI D), (3, vI C), (4, vA a)] [] h 0 0
  refine x_aload_n 0 dX5_init_0 rfl rfl ?_
  refine x_iload_n 1 dX5_init_1 rfl rfl ?_
  refine x_iload_n 2 dX5_init_2 rfl rfl ?_
  refine x_iload_n 3 dX5_init_3 rfl rfl ?_
  refine x_aload 4 dX5_init_4 rfl ?_
  refine x_callI [vI T, vI D, vI C, vA a] dX5_init_6 ki_X5_3 rfl rfl (by omega) (Nat.le_of_ble_eq_true rfl) (by omega) (by omega) (k_X1_init (d := 1) (by omega) hc hci) (after_void ?_)
  exact x_return dX5_init_9 rfl (by decide) (by decide) ⟨rfl, rfl⟩
set_option maxRecDepth 100000 in
set_option maxHeartbeats 4000000 in
theorem k_X7_init {G : aG} {d : Nat} (hd : 2 ≤ d) {h : aH} {c a : Nat} {T D C : Int}  (hc : h c = some (eO 6 (cvF0 6))) : MC G mX7_init d 0 0 [vA c, vI T, vI D, vI C, vA a] h (Voi (hset h c (eO 6 (cvF 6 T D C a 0)))) := by
  refine MC.of (by decide) (Nat.le_of_ble_eq_true rfl) (fun ok okh => ?_)
  show EX G mX7_init d 0 0 _ 0 [(0, vA c), (1, vI T), (2, vI D), (3, vI C), (4, vA a)] [] h 0 0
  refine x_aload_n 0 dX7_init_0 rfl rfl ?_
  refine x_iload_n 1 dX7_init_1 rfl rfl ?_
  refine x_iload_n 2 dX7_init_2 rfl rfl ?_
  refine x_iload_n 3 dX7_init_3 rfl rfl ?_
  refine x_aload 4 dX7_init_4 rfl ?_
  refine x_callI [vI T, vI D, vI C, vA a] dX7_init_6 ki_X7_3 rfl rfl (by omega) (Nat.le_of_ble_eq_true rfl) (by omega) (by omega) (k_X1_init (d := 1) (by omega) hc (by decide)) (after_void ?_)
  exact x_return dX7_init_9 rfl (by decide) (by decide) ⟨rfl, rfl⟩
set_option maxRecDepth 100000 in
set_option maxHeartbeats 4000000 in
theorem k_X0_init {G : aG} {d : Nat} (hd : 3 ≤ d) {h : aH} {c a : Nat} {T D C ld : Int} (hc : h c = some (eO 0 (cvF0 0))) : MC G mX0_init d 0 0 [vA c, vI T, vI D, vI C, vA a, vJ ld] h (Voi (hset h c (eO 0 (cvF 0 T D C a ld)))) := by
  refine MC.of (by decide) (Nat.le_of_ble_eq_true rfl) (fun ok okh => ?_)
  show EX G mX0_init d 0 0 _ 0 [(0, vA c), (1, vI T), (2, vI D), (3, vI C), (4, vA a), (5, vJ ld)] [] h 0 0
  refine x_aload_n 0 dX0_init_0 rfl rfl ?_
  refine x_iload_n 1 dX0_init_1 rfl rfl ?_
  refine x_iload_n 2 dX0_init_2 rfl rfl ?_
  refine x_iload_n 3 dX0_init_3 rfl rfl ?_
  refine x_aload 4 dX0_init_4 rfl ?_
  refine x_callI [vI T, vI D, vI C, vA a] dX0_init_6 ki_X0_3 rfl rfl (by omega) (Nat.le_of_ble_eq_true rfl) (by omega) (by omega) (k_X5_init (d := 2) (by omega) (by decide) hc) (after_void ?_)
  refine x_aload_n 0 dX0_init_9 rfl rfl ?_
  refine x_lload 5 dX0_init_10 rfl ?_
  refine x_putF 4 dX0_init_12 rfl pu_X0_9 (hset_eq _ _ _) rfl rfl (Nat.le_of_ble_eq_true rfl) ?_
  exact x_return dX0_init_15 rfl (by decide) (by decide) ⟨rfl, by rw [hset_hset]; rfl⟩
def mk1 (g : Nat → Int) (b : Nat) : Nat → Int := va_up g b (g b + 1)
def okT (g : Nat → Int) : Prop := ∀ j, 0 ≤ g j ∧ g j ≤ 2000000000
theorem okT.up {g : Nat → Int} (h : okT g) (b : Nat) (hb : g b + 1 ≤ 2000000000) : okT (mk1 g b) := by
  intro j
  simp only [mk1, va_up]
  by_cases q : j = b
  · subst q; simp; have := h j; omega
  · simp [q]; exact h j
set_option maxRecDepth 100000 in
set_option maxHeartbeats 4000000 in
theorem k_X1_asked {G : aG} {d : Nat} (hd : 1 ≤ d) {h : aH} {tl mk : Nat} {g : Nat → Int} (ht : h tl = some (eO 7 [vA mk])) (hm : h mk = some (eI 5 g)) (hg : ∀ j, 0 ≤ g j ∧ g j ≤ 1000000) {c a : Nat} {T D C ld : Int} {am : Nat → Int} (hcv : CvAt h c 1 a T D C am ld) (hok : CvOk T D C am) {t : Int} (ht0 : 0 ≤ t) : MC G mX1_asked d 0 0 [vA c, vI t, vA tl] h (Ret (vJ (cval T D C am t)) (hset h mk (eI 5 (mk1 g 0)))) := by
  obtain ⟨hT0, hT2, hD0, hD6, hC0, hC1, hA, hM, hW⟩ := id hok
  refine MC.of (by decide) (Nat.le_of_ble_eq_true rfl) (fun ok okh => ?_)
  show EX G mX1_asked d 0 0 _ 0 [(0, vA c), (1, vI t), (2, vA tl)] [] h 0 0
  refine x_aload_n 2 dX1_asked_0 rfl rfl ?_
  refine x_iconst dX1_asked_1 (okI_c rfl) ?_
  refine x_callV [vI 0] dX1_asked_2 kv_X1_25 rfl rfl ht (by omega) (Nat.le_of_ble_eq_true rfl) (by omega) (by omega) (k_X8_mark (d := 0) (b := 0) ht hm (by omega) (by omega) (by have := hg (0 : Int).toNat; unfold okI; omega)) (after_void ?_)
  refine x_aload_n 0 dX1_asked_5 rfl rfl ?_
  refine x_iload_n 1 dX1_asked_6 rfl rfl ?_
  refine x_callU [vI t] dX1_asked_7 (ku_X1_31 _ (by decide)) rfl rfl ((hset_ne _ _ (neOI hcv.1 hm)).trans hcv.1) (by omega) (Nat.le_of_ble_eq_true rfl) (by omega) (by omega) (k_X1_amount (d := 0) (hcv.keepI hm) hok ht0) (after_ret ?_)
  exact x_lreturn dX1_asked_10 rfl (by decide) (by decide) ⟨rfl, rfl⟩
set_option maxRecDepth 100000 in
set_option maxHeartbeats 4000000 in
theorem k_X5_asked {G : aG} {d : Nat} (hd : 1 ≤ d) {h : aH} {tl mk : Nat} {g : Nat → Int} (ht : h tl = some (eO 7 [vA mk])) (hm : h mk = some (eI 5 g)) (hg : ∀ j, 0 ≤ g j ∧ g j ≤ 2000000) {ci : Nat} (hci : ci ∈ [0, 4]) {c a : Nat} {T D C ld : Int} {am : Nat → Int} (hcv : CvAt h c ci a T D C am ld) (hok : CvOk T D C am) {t : Int} (ht0 : 0 ≤ t) : MC G mX5_asked d 0 0 [vA c, vI t, vA tl] h (Ret (vJ (C * t)) (hset h mk (eI 5 (mk1 g 2)))) := by
  obtain ⟨hT0, hT2, hD0, hD6, hC0, hC1, hA, hM, hW⟩ := id hok
  refine MC.of (by decide) (Nat.le_of_ble_eq_true rfl) (fun ok okh => ?_)
  show EX G mX5_asked d 0 0 _ 0 [(0, vA c), (1, vI t), (2, vA tl)] [] h 0 0
  have okt : okI t := ok (vI t) (by simp)
  unfold okI at okt
  refine x_aload_n 2 dX5_asked_0 rfl rfl ?_
  refine x_iconst dX5_asked_1 (okI_c rfl) ?_
  refine x_callV [vI 2] dX5_asked_2 kv_X5_9 rfl rfl ht (by omega) (Nat.le_of_ble_eq_true rfl) (by omega) (by omega) (k_X8_mark (d := 0) (b := 2) ht hm (by omega) (by omega) (by have := hg (2 : Int).toNat; unfold okI; omega)) (after_void ?_)
  refine x_aload_n 0 dX5_asked_5 rfl rfl ?_
  refine x_get 2 dX5_asked_6 (fl_X5_15 _ hci) ((hset_ne _ _ (neOI hcv.1 hm)).trans hcv.1) rfl ?_
  refine x_i2l dX5_asked_9 ?_
  refine x_iload_n 1 dX5_asked_10 rfl rfl ?_
  refine x_i2l dX5_asked_11 ?_
  have hmu := mulB (x := C) (y := t) (X := 1000000000) (Y := 2147483647) hC0 (by omega) hC1 (by omega)
  refine x_lmul dX5_asked_12 (by unfold okJ; omega) ?_
  exact x_lreturn dX5_asked_13 rfl (by decide) (by decide) ⟨rfl, rfl⟩
set_option maxRecDepth 100000 in
set_option maxHeartbeats 4000000 in
theorem k_X0_asked {G : aG} {d : Nat} (hd : 2 ≤ d) {h : aH} {tl mk : Nat} {g : Nat → Int} (ht : h tl = some (eO 7 [vA mk])) (hm : h mk = some (eI 5 g)) (hg : ∀ j, 0 ≤ g j ∧ g j ≤ 1000000) {c a : Nat} {T D C ld : Int} {am : Nat → Int} (hcv : CvAt h c 0 a T D C am ld) (hok : CvOk T D C am) {t : Int} (ht0 : 0 ≤ t) (hl0 : 0 ≤ ld) (hl1 : ld ≤ 1000000000000) : MC G mX0_asked d 0 0 [vA c, vI t, vA tl] h (Ret (vJ (if t = 0 then 0 else C * t + ld)) (hset h mk (eI 5 (mk1 (mk1 g 1) 2)))) := by
  obtain ⟨hT0, hT2, hD0, hD6, hC0, hC1, hA, hM, hW⟩ := id hok
  refine MC.of (by decide) (Nat.le_of_ble_eq_true rfl) (fun ok okh => ?_)
  show EX G mX0_asked d 0 0 _ 0 [(0, vA c), (1, vI t), (2, vA tl)] [] h 0 0
  have okt : okI t := ok (vI t) (by simp)
  unfold okI at okt
  refine x_aload_n 2 dX0_asked_0 rfl rfl ?_
  refine x_iconst dX0_asked_1 (okI_c rfl) ?_
  refine x_callV [vI 1] dX0_asked_2 kv_X0_15 rfl rfl ht (by omega) (Nat.le_of_ble_eq_true rfl) (by omega) (by omega) (k_X8_mark (d := 0) (b := 1) ht hm (by omega) (by omega) (by have := hg (1 : Int).toNat; unfold okI; omega)) (after_void ?_)
  refine x_aload_n 0 dX0_asked_5 rfl rfl ?_
  refine x_iload_n 1 dX0_asked_6 rfl rfl ?_
  refine x_aload_n 2 dX0_asked_7 rfl rfl ?_
  refine x_callSU [vI t, vA tl] dX0_asked_8 kz_X0_21 rfl rfl ((hset_ne _ _ (neOI hcv.1 hm)).trans hcv.1) (by omega) (Nat.le_of_ble_eq_true rfl) (by omega) (by omega) (k_X5_asked (d := 1) (by omega) ((hset_ne _ _ (neOI ht hm)).trans ht) (hset_eq h mk (eI 5 (mk1 g 1))) (fun j => by have q1 := hg j; have q2 := hg 1; simp only [mk1, va_up]; split <;> omega) (by decide) (hcv.keepI hm) hok ht0) (after_ret ?_)
  refine x_ash (hset_hset _ _ _ _) ?_
  refine x_nmJ (fun x1 e_x1 => ?_)
  refine x_lstore_n (L' := [(3, vJ x1), (0, vA c), (1, vI t), (2, vA tl)]) dX0_asked_11 rfl (Nat.le_of_ble_eq_true rfl) rfl ?_
  refine x_iload_n 2 dX0_asked_12 rfl rfl ?_
  refine x_if_ne 20 dX0_asked_13 (by decide) (fun c_13 => ?_) (fun c_13 => ?_)
  · refine x_lload_n 0 dX0_asked_20 rfl rfl ?_
    refine x_aload_n 1 dX0_asked_21 rfl rfl ?_
    refine x_get 4 dX0_asked_22 fl_X0_9 ((hset_ne _ _ (neOI hcv.1 hm)).trans hcv.1) rfl ?_
    have hmu := mulB (x := C) (y := t) (X := 1000000000) (Y := 2147483647) hC0 (by omega) hC1 (by omega)
    refine x_ladd dX0_asked_25 (by unfold okJ; omega) ?_
    exact x_lreturn dX0_asked_26 rfl (by decide) (by decide) (retJ (by rw [if_neg c_13, e_x1]))
  · refine x_lconst (x := 0) dX0_asked_16 (okJ_c rfl) rfl ?_
    refine x_goto 26 dX0_asked_17 (by decide) ?_
    exact x_lreturn dX0_asked_26 rfl (by decide) (by decide) (retJ (by rw [if_pos c_13]))
set_option maxRecDepth 100000 in
set_option maxHeartbeats 4000000 in
theorem k_X2_asked {G : aG} {d : Nat} (hd : 1 ≤ d) {h : aH} {tl mk : Nat} {g : Nat → Int} (ht : h tl = some (eO 7 [vA mk])) (hm : h mk = some (eI 5 g)) (hg : ∀ j, 0 ≤ g j ∧ g j ≤ 1000000) {c a : Nat} {T D C ld : Int} {am : Nat → Int} (hcv : CvAt h c 2 a T D C am ld) (hok : CvOk T D C am) {t : Int} (ht0 : 0 ≤ t) : MC G mX2_asked d 0 0 [vA c, vI t, vA tl] h (Ret (vJ (if t ≤ T then 0 else C * (t - T))) (hset h mk (eI 5 (mk1 g 3)))) := by
  obtain ⟨hT0, hT2, hD0, hD6, hC0, hC1, hA, hM, hW⟩ := id hok
  refine MC.of (by decide) (Nat.le_of_ble_eq_true rfl) (fun ok okh => ?_)
  show EX G mX2_asked d 0 0 _ 0 [(0, vA c), (1, vI t), (2, vA tl)] [] h 0 0
  have okt : okI t := ok (vI t) (by simp)
  unfold okI at okt
  refine x_aload_n 2 dX2_asked_0 rfl rfl ?_
  refine x_iconst dX2_asked_1 (okI_c rfl) ?_
  refine x_callV [vI 3] dX2_asked_2 kv_X2_9 rfl rfl ht (by omega) (Nat.le_of_ble_eq_true rfl) (by omega) (by omega) (k_X8_mark (d := 0) (b := 3) ht hm (by omega) (by omega) (by have := hg (3 : Int).toNat; unfold okI; omega)) (after_void ?_)
  refine x_iload_n 1 dX2_asked_5 rfl rfl ?_
  refine x_aload_n 0 dX2_asked_6 rfl rfl ?_
  refine x_get 0 dX2_asked_7 fl_X2_15 ((hset_ne _ _ (neOI hcv.1 hm)).trans hcv.1) rfl ?_
  refine x_icmp_gt 17 dX2_asked_10 (by decide) (fun c_10 => ?_) (fun c_10 => ?_)
  · refine x_aload_n 0 dX2_asked_17 rfl rfl ?_
    refine x_get 2 dX2_asked_18 fl_X2_21 ((hset_ne _ _ (neOI hcv.1 hm)).trans hcv.1) rfl ?_
    refine x_i2l dX2_asked_21 ?_
    refine x_iload_n 1 dX2_asked_22 rfl rfl ?_
    refine x_aload_n 0 dX2_asked_23 rfl rfl ?_
    refine x_get 0 dX2_asked_24 fl_X2_15 ((hset_ne _ _ (neOI hcv.1 hm)).trans hcv.1) rfl ?_
    refine x_isub dX2_asked_27 (by unfold okI; omega) ?_
    refine x_i2l dX2_asked_28 ?_
    have hmu := mulB (x := C) (y := t - T) (X := 1000000000) (Y := 2147483647) hC0 (by omega) hC1 (by omega)
    refine x_lmul dX2_asked_29 (by unfold okJ; omega) ?_
    exact x_lreturn dX2_asked_30 rfl (by decide) (by decide) (retJ (by rw [if_neg (by omega)]))
  · refine x_lconst (x := 0) dX2_asked_13 (okJ_c rfl) rfl ?_
    refine x_goto 30 dX2_asked_14 (by decide) ?_
    exact x_lreturn dX2_asked_30 rfl (by decide) (by decide) (retJ (by rw [if_pos c_10]))
set_option maxRecDepth 100000 in
set_option maxHeartbeats 4000000 in
theorem k_X7_asked {G : aG} {d : Nat} (hd : 1 ≤ d) {h : aH} {tl mk : Nat} {g : Nat → Int} (ht : h tl = some (eO 7 [vA mk])) (hm : h mk = some (eI 5 g)) (hg : ∀ j, 0 ≤ g j ∧ g j ≤ 1000000) {c a : Nat} {T D C ld : Int} {am : Nat → Int} (hcv : CvAt h c 6 a T D C am ld) (hok : CvOk T D C am) {t : Int} (ht0 : 0 ≤ t) : MC G mX7_asked d 0 0 [vA c, vI t, vA tl] h (Ret (vJ (C * (t / D))) (hset h mk (eI 5 (mk1 g 4)))) := by
  obtain ⟨hT0, hT2, hD0, hD6, hC0, hC1, hA, hM, hW⟩ := id hok
  refine MC.of (by decide) (Nat.le_of_ble_eq_true rfl) (fun ok okh => ?_)
  show EX G mX7_asked d 0 0 _ 0 [(0, vA c), (1, vI t), (2, vA tl)] [] h 0 0
  have okt : okI t := ok (vI t) (by simp)
  unfold okI at okt
  refine x_aload_n 2 dX7_asked_0 rfl rfl ?_
  refine x_iconst dX7_asked_1 (okI_c rfl) ?_
  refine x_callV [vI 4] dX7_asked_2 kv_X7_9 rfl rfl ht (by omega) (Nat.le_of_ble_eq_true rfl) (by omega) (by omega) (k_X8_mark (d := 0) (b := 4) ht hm (by omega) (by omega) (by have := hg (4 : Int).toNat; unfold okI; omega)) (after_void ?_)
  refine x_aload_n 0 dX7_asked_5 rfl rfl ?_
  refine x_get 1 dX7_asked_6 fl_X7_15 ((hset_ne _ _ (neOI hcv.1 hm)).trans hcv.1) rfl ?_
  refine x_iconst dX7_asked_9 (okI_c rfl) ?_
  refine x_icmp_ge 17 dX7_asked_10 (by decide) (fun c_10 => ?_) (fun c_10 => (by exfalso; omega))
  refine x_aload_n 0 dX7_asked_17 rfl rfl ?_
  refine x_get 2 dX7_asked_18 fl_X7_21 ((hset_ne _ _ (neOI hcv.1 hm)).trans hcv.1) rfl ?_
  refine x_i2l dX7_asked_21 ?_
  refine x_iload_n 1 dX7_asked_22 rfl rfl ?_
  refine x_aload_n 0 dX7_asked_23 rfl rfl ?_
  refine x_get 1 dX7_asked_24 fl_X7_15 ((hset_ne _ _ (neOI hcv.1 hm)).trans hcv.1) rfl ?_
  refine x_idiv dX7_asked_27 (by omega) (by omega) ?_
  refine x_i2l dX7_asked_28 ?_
  have hqb := divB (x := t) ht0 (show 0 < D by omega)
  have hmu := mulB (x := C) (y := t / D) (X := 1000000000) (Y := 2147483647) hC0 (by omega) hC1 (by omega)
  refine x_lmul dX7_asked_29 (by unfold okJ; omega) ?_
  exact x_lreturn dX7_asked_30 rfl (by decide) (by decide) ⟨rfl, rfl⟩
set_option maxRecDepth 100000 in
set_option maxHeartbeats 4000000 in
theorem k_X1_kind {G : aG} {d : Nat} {h : aH} {c : Nat} : MC G mX1_kind d 0 0 [vA c] h (Ret (vI 0) h) := by
  refine MC.of (by decide) (Nat.le_of_ble_eq_true rfl) (fun ok okh => ?_)
  show EX G mX1_kind d 0 0 _ 0 [(0, vA c)] [] h 0 0
  refine x_iconst dX1_kind_0 (okI_c rfl) ?_
  exact x_ireturn dX1_kind_1 rfl (by decide) (by decide) ⟨rfl, rfl⟩
set_option maxRecDepth 100000 in
set_option maxHeartbeats 4000000 in
theorem k_X0_kind {G : aG} {d : Nat} {h : aH} {c : Nat} : MC G mX0_kind d 0 0 [vA c] h (Ret (vI 1) h) := by
  refine MC.of (by decide) (Nat.le_of_ble_eq_true rfl) (fun ok okh => ?_)
  show EX G mX0_kind d 0 0 _ 0 [(0, vA c)] [] h 0 0
  refine x_iconst dX0_kind_0 (okI_c rfl) ?_
  exact x_ireturn dX0_kind_1 rfl (by decide) (by decide) ⟨rfl, rfl⟩
set_option maxRecDepth 100000 in
set_option maxHeartbeats 4000000 in
theorem k_X5_kind {G : aG} {d : Nat} {h : aH} {c : Nat} : MC G mX5_kind d 0 0 [vA c] h (Ret (vI 2) h) := by
  refine MC.of (by decide) (Nat.le_of_ble_eq_true rfl) (fun ok okh => ?_)
  show EX G mX5_kind d 0 0 _ 0 [(0, vA c)] [] h 0 0
  refine x_iconst dX5_kind_0 (okI_c rfl) ?_
  exact x_ireturn dX5_kind_1 rfl (by decide) (by decide) ⟨rfl, rfl⟩
set_option maxRecDepth 100000 in
set_option maxHeartbeats 4000000 in
theorem k_X2_kind {G : aG} {d : Nat} {h : aH} {c : Nat} : MC G mX2_kind d 0 0 [vA c] h (Ret (vI 3) h) := by
  refine MC.of (by decide) (Nat.le_of_ble_eq_true rfl) (fun ok okh => ?_)
  show EX G mX2_kind d 0 0 _ 0 [(0, vA c)] [] h 0 0
  refine x_iconst dX2_kind_0 (okI_c rfl) ?_
  exact x_ireturn dX2_kind_1 rfl (by decide) (by decide) ⟨rfl, rfl⟩
set_option maxRecDepth 100000 in
set_option maxHeartbeats 4000000 in
theorem k_X7_kind {G : aG} {d : Nat} {h : aH} {c : Nat} : MC G mX7_kind d 0 0 [vA c] h (Ret (vI 4) h) := by
  refine MC.of (by decide) (Nat.le_of_ble_eq_true rfl) (fun ok okh => ?_)
  show EX G mX7_kind d 0 0 _ 0 [(0, vA c)] [] h 0 0
  refine x_iconst dX7_kind_0 (okI_c rfl) ?_
  exact x_ireturn dX7_kind_1 rfl (by decide) (by decide) ⟨rfl, rfl⟩
