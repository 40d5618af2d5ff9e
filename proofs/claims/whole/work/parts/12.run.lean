/-! ===== Run ===== -/
def psum (f : Nat → Int) : Nat → Int
  | 0 => 0
  | n + 1 => psum f n + f n
/-- what came until a span, of n steps -/
def arrS (n : Int) (sm : Nat → Int) (t : Int) : Int := psum sm (min t n).toNat
def StepsOk (n : Int) (sm : Nat → Int) : Prop := 0 ≤ n ∧ n ≤ 60 ∧ ∀ k : Int, 0 ≤ k → k < n → 0 ≤ sm k.toNat ∧ sm k.toNat ≤ 1000000000
theorem psum_s {f : Nat → Int} {k : Int} (h : 0 ≤ k) : psum f (k + 1).toNat = psum f k.toNat + f k.toNat := by
  rw [show (k + 1).toNat = k.toNat + 1 by omega]; rfl
theorem psum_le {n : Int} {sm : Nat → Int} (ok : StepsOk n sm) : ∀ (j : Nat) (i : Nat), ((i + j : Nat) : Int) ≤ n → psum sm i ≤ psum sm (i + j) ∧ psum sm (i + j) ≤ psum sm i + (j : Int) * 1000000000 := by
  intro j
  induction j with
  | zero => intro i h; simp
  | succ j ih =>
    intro i h
    have h1 := ih i (by omega)
    have h2 := ok.2.2 ((i + j : Nat) : Int) (by omega) (by omega)
    rw [show (((i + j : Nat) : Int)).toNat = i + j by omega] at h2
    have h3 : psum sm (i + (j + 1)) = psum sm (i + j) + sm (i + j) := rfl
    rw [h3]
    omega
theorem arr_mono {n s t : Int} {sm : Nat → Int} (ok : StepsOk n sm) (hs : 0 ≤ s) (hst : s ≤ t) : arrS n sm s ≤ arrS n sm t := by
  have h0 := ok.1
  have := (psum_le ok ((min t n).toNat - (min s n).toNat) (min s n).toNat (by omega)).1
  rw [show (min s n).toNat + ((min t n).toNat - (min s n).toNat) = (min t n).toNat by omega] at this
  exact this
theorem arr_top {n t : Int} {sm : Nat → Int} (ok : StepsOk n sm) (ht : 0 ≤ t) : 0 ≤ arrS n sm t ∧ arrS n sm t ≤ 60000000000 := by
  obtain ⟨h0, h1, h2⟩ := id ok
  have := psum_le ok (min t n).toNat 0 (by omega)
  have e : psum sm 0 = 0 := rfl
  rw [Nat.zero_add, e] at this
  unfold arrS
  omega
theorem arr_end {n t : Int} {sm : Nat → Int} (h : n ≤ t) : arrS n sm t = arrS n sm n := by
  unfold arrS
  rw [Int.min_eq_right h, Int.min_eq_right (Int.le_refl n)]
/-- the least of some, and of a number -/
def minS (f : Int → Int) (v : Int) : Nat → Int
  | 0 => v
  | n + 1 => min (minS f v n) (f n)
theorem minS_s {f : Int → Int} {v t : Int} (h : 0 ≤ t) : minS f v (t + 1).toNat = min (minS f v t.toNat) (f t) := by
  rw [show (t + 1).toNat = t.toNat + 1 by omega]
  show min _ (f (t.toNat : Int)) = _
  rw [show ((t.toNat : Nat) : Int) = t by omega]
theorem minS_le (f : Int → Int) (v : Int) (n : Nat) : minS f v n ≤ v := by
  induction n with
  | zero => exact Int.le_refl v
  | succ n ih => simp only [minS]; omega
theorem minS_le_at {f : Int → Int} {v : Int} {n : Nat} {t : Int} (h0 : 0 ≤ t) (h : t < n) : minS f v n ≤ f t := by
  induction n with
  | zero => omega
  | succ n ih =>
    simp only [minS]
    by_cases e : t = n
    · subst e; omega
    · have := ih (by omega); omega
theorem minS_ge {f : Int → Int} {v b : Int} {n : Nat} (hv : b ≤ v) (h : ∀ t : Int, 0 ≤ t → t < n → b ≤ f t) : b ≤ minS f v n := by
  induction n with
  | zero => exact hv
  | succ n ih =>
    simp only [minS]
    have h1 := ih fun t a b => h t a (by omega)
    have h2 := h n (by omega) (by omega)
    omega
theorem minS_more {f : Int → Int} {v : Int} {n : Nat} (k : Nat) (h : ∀ t : Int, n ≤ t → t < ((n + k : Nat) : Int) → v ≤ f t) : minS f v (n + k) = minS f v n := by
  induction k with
  | zero => rfl
  | succ k ih =>
    have h1 := ih fun t a b => h t a (by omega)
    have h2 := h ((n + k : Nat) : Int) (by omega) (by omega)
    have h3 := minS_le f v n
    show min (minS f v (n + k)) (f ((n + k : Nat) : Int)) = _
    rw [h1]; omega
/-- what is served until a span: by a curve G of what came -/
def servS (n : Int) (sm : Nat → Int) (G : Int → Int) (t : Int) : Int := minS (fun s => arrS n sm s + G (t - s)) (arrS n sm t) (t + 1).toNat
def Mono (G : Int → Int) : Prop := (∀ s : Int, 0 ≤ s → 0 ≤ G s) ∧ ∀ s u : Int, 0 ≤ s → s ≤ u → G s ≤ G u
theorem cval_M {T D C : Int} {am : Nat → Int} (ok : CvOk T D C am) : Mono (cval T D C am) := ⟨fun _ h => cval_nn ok h, fun _ _ h1 h2 => cval_mono ok h1 h2⟩
theorem serv_cut {n t : Int} {sm : Nat → Int} {G : Int → Int} (ok : StepsOk n sm) (hG : Mono G) (ht : 0 ≤ t) : servS n sm G t = minS (fun s => arrS n sm s + G (t - s)) (arrS n sm t) (min t n + 1).toNat := by
  have h0 := ok.1
  have := minS_more (f := fun s => arrS n sm s + G (t - s)) (v := arrS n sm t) (n := (min t n + 1).toNat) ((t + 1).toNat - (min t n + 1).toNat) (by
    intro s h1 h2
    have e1 : arrS n sm s = arrS n sm n := arr_end (by omega)
    have e2 : arrS n sm t = arrS n sm n := arr_end (by omega)
    have e3 := hG.1 (t - s) (by omega)
    omega)
  rw [show (min t n + 1).toNat + ((t + 1).toNat - (min t n + 1).toNat) = (t + 1).toNat by omega] at this
  exact this
theorem serv_top {n t : Int} {sm : Nat → Int} {G : Int → Int} (ok : StepsOk n sm) (hG : Mono G) (ht : 0 ≤ t) : 0 ≤ servS n sm G t ∧ servS n sm G t ≤ arrS n sm t := by
  refine ⟨minS_ge (arr_top ok ht).1 fun s h1 h2 => ?_, minS_le _ _ _⟩
  have := (arr_top (t := s) ok h1).1
  have := hG.1 (t - s) (by omega)
  omega
theorem serv_mono {n s t : Int} {sm : Nat → Int} {G : Int → Int} (ok : StepsOk n sm) (hG : Mono G) (hs : 0 ≤ s) (hst : s ≤ t) : servS n sm G s ≤ servS n sm G t := by
  have ha := arr_mono ok hs hst
  have h1 := (serv_top ok hG hs).2
  refine minS_ge (by omega) fun u h2 h3 => ?_
  by_cases q : u ≤ s
  · have h4 : servS n sm G s ≤ arrS n sm u + G (s - u) := minS_le_at (f := fun x => arrS n sm x + G (s - x)) h2 (by omega)
    have h5 := hG.2 (s - u) (t - u) (by omega) (by omega)
    omega
  · have h4 := arr_mono ok hs (show s ≤ u by omega)
    have h5 := hG.1 (t - u) (by omega)
    omega
noncomputable def lateS (n : Int) (sm : Nat → Int) (G : Int → Int) (t : Int) : Int := firstS (fun w => servS n sm G (t + w)) (arrS n sm t) 500
noncomputable def mostLateS (n : Int) (sm : Nat → Int) (G : Int → Int) : Int := @ite Int (∀ t : Int, 0 ≤ t → t ≤ n → lateS n sm G t ≠ -1) (Classical.propDecidable _) (sup0 (lateS n sm G) (n + 1).toNat) (-1)
def keepsS (n : Int) (sm : Nat → Int) (F : Int → Int) : Prop := ∀ t s : Int, 0 ≤ s → s ≤ t → t ≤ n → arrS n sm t - arrS n sm s ≤ F (t - s)
/-- a step of the hardest run -/
def hstep (F : Int → Int) (t : Int) : Int := if t = 1 then F 1 else F t - F (t - 1)
def RunAt (h : aH) (r cr : Nat) (n : Int) (cm : Nat → Int) : Prop := h r = some (eO 5 [vA cr, vI n]) ∧ h cr = some (eJ 61 cm)
def RunOk (n : Int) (sm cm : Nat → Int) : Prop := StepsOk n sm ∧ ∀ k : Int, 0 ≤ k → k ≤ n → cm k.toNat = psum sm k.toNat
theorem RunOk.arr {n t : Int} {sm cm : Nat → Int} (ok : RunOk n sm cm) (ht : 0 ≤ t) : cm (min t n).toNat = arrS n sm t := by
  have h0 := ok.1.1
  have := ok.2 (min t n) (by omega) (by omega)
  rw [this]; rfl
set_option maxRecDepth 100000 in
set_option maxHeartbeats 4000000 in
theorem k_X6_isFull {G : aG} {d : Nat}  {h : aH} {r cr : Nat} {n : Int} {cm : Nat → Int} (hr : RunAt h r cr n cm) (hn0 : 0 ≤ n) (hn6 : n ≤ 60) : MC G mX6_isFull d 0 0 [vA r] h (Ret (vI (b2i (n = 60))) h) := by
  refine MC.of (by decide) (Nat.le_of_ble_eq_true rfl) (fun ok okh => ?_)
  show EX G mX6_isFull d 0 0 _ 0 [(0, vA r)] [] h 0 0
  refine x_aload_n 0 dX6_isFull_0 rfl rfl ?_
  refine x_get 1 dX6_isFull_1 fl_X6_15 hr.1 rfl ?_
  refine x_if_lt 21 dX6_isFull_4 (by decide) (fun c_4 => (by exfalso; omega)) (fun c_4 => ?_)
  refine x_aload_n 0 dX6_isFull_7 rfl rfl ?_
  refine x_get 1 dX6_isFull_8 fl_X6_15 hr.1 rfl ?_
  refine x_iconst dX6_isFull_11 (okI_c rfl) ?_
  refine x_iadd dX6_isFull_12 (by unfold okI; omega) ?_
  refine x_aload_n 0 dX6_isFull_13 rfl rfl ?_
  refine x_get 0 dX6_isFull_14 fl_X6_9 hr.1 rfl ?_
  refine x_alenJ dX6_isFull_17 hr.2 (by omega) ?_
  refine x_icmp_lt 25 dX6_isFull_18 (by decide) (fun c_18 => ?_) (fun c_18 => ?_)
  · refine x_iconst dX6_isFull_25 (okI_c rfl) ?_
    exact x_zreturn dX6_isFull_26 rfl (by omega) (by decide) (by decide) (retI (b2i_f (by omega)).symm)
  · refine x_iconst dX6_isFull_21 (okI_c rfl) ?_
    refine x_goto 26 dX6_isFull_22 (by decide) ?_
    exact x_zreturn dX6_isFull_26 rfl (by omega) (by decide) (by decide) (retI (b2i_t (by omega)).symm)
set_option maxRecDepth 100000 in
set_option maxHeartbeats 4000000 in
theorem k_X6_add {G : aG} {d : Nat} (hd : 1 ≤ d) {h : aH} {r cr : Nat} {n : Int} {cm : Nat → Int} (hr : RunAt h r cr n cm) {sm : Nat → Int} (hro : RunOk n sm cm) {x : Int} (hx0 : 0 ≤ x) (hx1 : x ≤ 1000000000) (hlt : n < 60) : MC G mX6_add d 0 0 [vA r, vJ x] h (Voi (hset (hset h cr (eJ 61 (va_up cm (n + 1).toNat (cm n.toNat + x)))) r (eO 5 [vA cr, vI (n + 1)]))) := by
  obtain ⟨⟨hn0, hn6, hsm⟩, hcm⟩ := id hro
  refine MC.of (by decide) (Nat.le_of_ble_eq_true rfl) (fun ok okh => ?_)
  show EX G mX6_add d 0 0 _ 0 [(0, vA r), (1, vJ x)] [] h 0 0
  refine x_aload_n 0 dX6_add_0 rfl rfl ?_
  refine x_callV [] dX6_add_1 kv_X6_19 rfl rfl hr.1 (by omega) (Nat.le_of_ble_eq_true rfl) (by omega) (by omega) (k_X6_isFull (d := 0) hr hn0 hn6) (after_ret ?_)
  refine x_if_ne 39 dX6_add_4 (by decide) (fun c_4 => (by exact absurd (b2i_f (show ¬ n = 60 by omega)) c_4)) (fun c_4 => ?_)
  refine x_aload_n 0 dX6_add_7 rfl rfl ?_
  refine x_get 0 dX6_add_8 fl_X6_9 hr.1 rfl ?_
  refine x_aload_n 0 dX6_add_11 rfl rfl ?_
  refine x_get 1 dX6_add_12 fl_X6_15 hr.1 rfl ?_
  refine x_iconst dX6_add_15 (okI_c rfl) ?_
  refine x_iadd dX6_add_16 (by unfold okI; omega) ?_
  refine x_aload_n 0 dX6_add_17 rfl rfl ?_
  refine x_get 0 dX6_add_18 fl_X6_9 hr.1 rfl ?_
  refine x_aload_n 0 dX6_add_21 rfl rfl ?_
  refine x_get 1 dX6_add_22 fl_X6_15 hr.1 rfl ?_
  refine x_laload dX6_add_25 hr.2 (by omega) (by omega) ?_
  refine x_lload_n 1 dX6_add_26 rfl rfl ?_
  have ha := arr_top (t := n) hro.1 hn0
  rw [← hro.arr hn0, Int.min_eq_left (Int.le_refl n)] at ha
  refine x_ladd dX6_add_27 (by unfold okJ; omega) ?_
  refine x_lastore dX6_add_28 hr.2 (by omega) (by omega) ?_
  refine x_aload_n 0 dX6_add_29 rfl rfl ?_
  refine x_dup dX6_add_30 rfl ?_
  refine x_get 1 dX6_add_31 fl_X6_15 ((hset_ne _ _ (neOJ hr.1 hr.2)).trans hr.1) rfl ?_
  refine x_iconst dX6_add_34 (okI_c rfl) ?_
  refine x_iadd dX6_add_35 (by unfold okI; omega) ?_
  refine x_put 1 dX6_add_36 pu_X6_15 ((hset_ne _ _ (neOJ hr.1 hr.2)).trans hr.1) rfl rfl (Nat.le_of_ble_eq_true rfl) ?_
  exact x_return dX6_add_39 rfl (by decide) (by decide) ⟨rfl, rfl⟩
set_option maxRecDepth 100000 in
set_option maxHeartbeats 4000000 in
theorem k_X6_hardestStep {G : aG} {d : Nat} (hd : 1 ≤ d) {h : aH} {c ci a : Nat} {T D C ld : Int} {am : Nat → Int} (hcv : CvAt h c ci a T D C am ld) (hok : CvOk T D C am) {t : Int} (ht1 : 1 ≤ t) (ht : t ≤ 1000) : MC G mX6_hardestStep d 0 0 [vA c, vI t] h (Ret (vJ (hstep (cval T D C am) t)) h) := by
  obtain ⟨hT0, hT2, hD0, hD6, hC0, hC1, hA, hM, hW⟩ := id hok
  refine MC.of (by decide) (Nat.le_of_ble_eq_true rfl) (fun ok okh => ?_)
  show EX G mX6_hardestStep d 0 0 _ 0 [(0, vA c), (1, vI t)] [] h 0 0
  refine x_iload_n 1 dX6_hardestStep_0 rfl rfl ?_
  refine x_iconst dX6_hardestStep_1 (okI_c rfl) ?_
  refine x_icmp_ne 13 dX6_hardestStep_2 (by decide) (fun c_2 => ?_) (fun c_2 => ?_)
  · refine x_aload_n 0 dX6_hardestStep_13 rfl rfl ?_
    refine x_iload_n 1 dX6_hardestStep_14 rfl rfl ?_
    refine x_callU [vI t] dX6_hardestStep_15 (ku_X6_23 _ hcv.2.2) rfl rfl hcv.1 (by omega) (Nat.le_of_ble_eq_true rfl) (by omega) (by omega) (k_X1_amount (d := 0) hcv hok (t := t) (by omega)) (after_ret ?_)
    refine x_aload_n 0 dX6_hardestStep_18 rfl rfl ?_
    refine x_iload_n 1 dX6_hardestStep_19 rfl rfl ?_
    refine x_iconst dX6_hardestStep_20 (okI_c rfl) ?_
    refine x_isub dX6_hardestStep_21 (by unfold okI; omega) ?_
    refine x_callU [vI (t - 1)] dX6_hardestStep_22 (ku_X6_23 _ hcv.2.2) rfl rfl hcv.1 (by omega) (Nat.le_of_ble_eq_true rfl) (by omega) (by omega) (k_X1_amount (d := 0) hcv hok (t := t - 1) (by omega)) (after_ret ?_)
    have b1 := cval_nn hok (show 0 ≤ t by omega)
    have b2 := cval_nn hok (show 0 ≤ t - 1 by omega)
    have b3 := cval_top hok (show 0 ≤ t by omega)
    have b4 := cval_top hok (show 0 ≤ t - 1 by omega)
    refine x_lsub dX6_hardestStep_25 (by unfold okJ; omega) ?_
    exact x_lreturn dX6_hardestStep_26 rfl (by decide) (by decide) (retJ (by rw [hstep, if_neg (by omega)]))
  · refine x_aload_n 0 dX6_hardestStep_5 rfl rfl ?_
    refine x_iconst dX6_hardestStep_6 (okI_c rfl) ?_
    refine x_callU [vI 1] dX6_hardestStep_7 (ku_X6_23 _ hcv.2.2) rfl rfl hcv.1 (by omega) (Nat.le_of_ble_eq_true rfl) (by omega) (by omega) (k_X1_amount (d := 0) hcv hok (t := 1) (by omega)) (after_ret ?_)
    refine x_goto 26 dX6_hardestStep_10 (by decide) ?_
    exact x_lreturn dX6_hardestStep_26 rfl (by decide) (by decide) (retJ (by rw [hstep, if_pos (by omega)]))
set_option maxRecDepth 100000 in
set_option maxHeartbeats 4000000 in
theorem k_X6_canFollow {G : aG} {d : Nat} (hd : 2 ≤ d) {h : aH} {c ci a : Nat} {T D C ld : Int} {am : Nat → Int} (hcv : CvAt h c ci a T D C am ld) (hok : CvOk T D C am) {n : Int} (hn0 : 0 ≤ n) (hn6 : n ≤ 60) : MC G mX6_canFollow d 0 0 [vA c, vI n] h (Ret (vI (b2i (∀ t : Int, 1 ≤ t → t ≤ n → hstep (cval T D C am) t ≤ 1000000000))) h) := by
  obtain ⟨hT0, hT2, hD0, hD6, hC0, hC1, hA, hM, hW⟩ := id hok
  refine MC.of (by decide) (Nat.le_of_ble_eq_true rfl) (fun ok okh => ?_)
  show EX G mX6_canFollow d 0 0 _ 0 [(0, vA c), (1, vI n)] [] h 0 0
  refine x_iconst dX6_canFollow_0 (okI_c rfl) ?_
  refine x_istore_n (L' := [(2, vI 1), (0, vA c), (1, vI n)]) dX6_canFollow_1 rfl (Nat.le_of_ble_eq_true rfl) rfl ?_
  have loop_2 : ∀ (k_2 : Nat) (t : Int) , (n + 1 - t).toNat < k_2 → 1 ≤ t → t ≤ n + 1 → (∀ y : Int, 1 ≤ y → y < t → hstep (cval T D C am) y ≤ 1000000000) → EX G mX6_canFollow d 0 0 (Ret (vI (b2i (∀ t : Int, 1 ≤ t → t ≤ n → hstep (cval T D C am) t ≤ 1000000000))) h) 2 [(0, vA c), (1, vI n), (2, vI t)] [] h 0 0 := by
    intro k_2
    induction k_2 with
    | zero => intro t hm; exact absurd hm (Nat.not_lt_zero _)
    | succ k_2 ih_2 =>
      intro t hm_2 ht1 htn hall
      refine x_iload_n 2 dX6_canFollow_2 rfl rfl ?_
      refine x_iload_n 1 dX6_canFollow_3 rfl rfl ?_
      refine x_icmp_gt 27 dX6_canFollow_4 (by decide) (fun c_4 => ?_) (fun c_4 => ?_)
      · refine x_iconst dX6_canFollow_27 (okI_c rfl) ?_
        exact x_zreturn dX6_canFollow_28 rfl (Or.inr rfl) (by decide) (by decide) (retI (b2i_t (fun y q1 q2 => hall y q1 (by omega))).symm)
      · refine x_aload_n 0 dX6_canFollow_7 rfl rfl ?_
        refine x_iload_n 2 dX6_canFollow_8 rfl rfl ?_
        refine x_callS [vA c, vI t] dX6_canFollow_9 ks_X6_29 rfl rfl (by omega) (Nat.le_of_ble_eq_true rfl) (by omega) (by omega) (k_X6_hardestStep (d := 1) (by omega) hcv hok (t := t) (by omega) (by omega)) (after_ret ?_)
        refine x_ldc2 (n := 1000000000) dX6_canFollow_12 (okJ_c rfl) kc_X6_33 ?_
        refine x_lc_le 21 dX6_canFollow_15 dX6_canFollow_16 (by decide) (fun c_15 => ?_) (fun c_15 => ?_)
        · refine x_iinc 2 (L' := [(2, vI (t + 1)), (0, vA c), (1, vI n)]) dX6_canFollow_21 rfl (by unfold okI; omega) (Nat.le_of_ble_eq_true rfl) rfl ?_
          refine x_goto 2 dX6_canFollow_24 (by decide) ?_
          exact EX.pick [1, 2, 0] rfl (ih_2 (t + 1)  (by omega) (by omega) (by omega) (fun y q1 q2 => by by_cases q : y < t; exact hall y q1 q; have e : y = t := (by omega); rw [e]; exact c_15))
        · refine x_iconst dX6_canFollow_19 (okI_c rfl) ?_
          exact x_zreturn dX6_canFollow_20 rfl (Or.inl rfl) (by decide) (by decide) (retI (b2i_f (fun q => by have := q t ht1 (by omega); omega)).symm)
  exact EX.pick [1, 2, 0] rfl (loop_2 ((n + 1 - (1 : Int)).toNat + 1) 1  (Nat.lt_succ_self _) (by omega) (by omega) (fun y q1 q2 => by omega))
set_option maxRecDepth 100000 in
set_option maxHeartbeats 4000000 in
theorem k_X6_arrived {G : aG} {d : Nat} (hd : 1 ≤ d) {h : aH} {r cr : Nat} {n : Int} {cm : Nat → Int} (hr : RunAt h r cr n cm) {sm : Nat → Int} (hro : RunOk n sm cm) {t : Int} (ht0 : 0 ≤ t) : MC G mX6_arrived d 0 0 [vA r, vI t] h (Ret (vJ (arrS n sm t)) h) := by
  obtain ⟨⟨hn0, hn6, hsm⟩, hcm⟩ := id hro
  refine MC.of (by decide) (Nat.le_of_ble_eq_true rfl) (fun ok okh => ?_)
  show EX G mX6_arrived d 0 0 _ 0 [(0, vA r), (1, vI t)] [] h 0 0
  refine x_iload_n 1 dX6_arrived_0 rfl rfl ?_
  refine x_aload_n 0 dX6_arrived_1 rfl rfl ?_
  refine x_get 1 dX6_arrived_2 fl_X6_15 hr.1 rfl ?_
  refine x_minI dX6_arrived_5 km_X6_39 (by omega) (Nat.le_of_ble_eq_true rfl) (by omega) (by omega) ?_
  refine x_nmI (fun x1 e_x1 => ?_)
  refine x_istore_n (L' := [(2, vI x1), (0, vA r), (1, vI t)]) dX6_arrived_8 rfl (Nat.le_of_ble_eq_true rfl) rfl ?_
  refine x_iload_n 0 dX6_arrived_9 rfl rfl ?_
  refine x_if_lt 22 dX6_arrived_10 (by decide) (fun c_10 => (by exfalso; omega)) (fun c_10 => ?_)
  refine x_iload_n 0 dX6_arrived_13 rfl rfl ?_
  refine x_aload_n 1 dX6_arrived_14 rfl rfl ?_
  refine x_get 0 dX6_arrived_15 fl_X6_9 hr.1 rfl ?_
  refine x_alenJ dX6_arrived_18 hr.2 (by omega) ?_
  refine x_icmp_lt 26 dX6_arrived_19 (by decide) (fun c_19 => ?_) (fun c_19 => (by exfalso; omega))
  refine x_aload_n 1 dX6_arrived_26 rfl rfl ?_
  refine x_get 0 dX6_arrived_27 fl_X6_9 hr.1 rfl ?_
  refine x_iload_n 0 dX6_arrived_30 rfl rfl ?_
  refine x_laload dX6_arrived_31 hr.2 (by omega) (by omega) ?_
  exact x_lreturn dX6_arrived_32 rfl (by decide) (by decide) (retJ (by rw [← hro.arr ht0, e_x1]))
set_option maxRecDepth 100000 in
set_option maxHeartbeats 4000000 in
theorem k_X6_passed {G : aG} {d : Nat} (hd : 2 ≤ d) {h : aH} {r cr : Nat} {n : Int} {cm : Nat → Int} (hr : RunAt h r cr n cm) {sm : Nat → Int} (hro : RunOk n sm cm) {c ci a : Nat} {T D C ld : Int} {am : Nat → Int} (hcv : CvAt h c ci a T D C am ld) (hok : CvOk T D C am) {t : Int} (ht0 : 0 ≤ t) (ht : t ≤ 2000) : MC G mX6_passed d 0 0 [vA r, vA c, vI t] h (Ret (vJ (servS n sm (cval T D C am) t)) h) := by
  obtain ⟨hT0, hT2, hD0, hD6, hC0, hC1, hA, hM, hW⟩ := id hok
  obtain ⟨⟨hn0, hn6, hsm⟩, hcm⟩ := id hro
  refine MC.of (by decide) (Nat.le_of_ble_eq_true rfl) (fun ok okh => ?_)
  show EX G mX6_passed d 0 0 _ 0 [(0, vA r), (1, vA c), (2, vI t)] [] h 0 0
  refine x_aload_n 0 dX6_passed_0 rfl rfl ?_
  refine x_iload_n 2 dX6_passed_1 rfl rfl ?_
  refine x_callV [vI t] dX6_passed_2 kv_X6_45 rfl rfl hr.1 (by omega) (Nat.le_of_ble_eq_true rfl) (by omega) (by omega) (k_X6_arrived (d := 1) (by omega) hr hro (t := t) (by omega)) (after_ret ?_)
  refine x_nmJ (fun x1 e_x1 => ?_)
  refine x_lstore_n (L' := [(3, vJ x1), (0, vA r), (1, vA c), (2, vI t)]) dX6_passed_5 rfl (Nat.le_of_ble_eq_true rfl) rfl ?_
  refine x_iconst dX6_passed_6 (okI_c rfl) ?_
  refine x_istore (L' := [(5, vI 0), (3, vJ x1), (0, vA r), (1, vA c), (2, vI t)]) dX6_passed_7 (Nat.le_of_ble_eq_true rfl) rfl ?_
  have loop_9 : ∀ (k_9 : Nat) (w : Int) (s : Int) , (min t n + 1 - s).toNat < k_9 → 0 ≤ s → s ≤ min t n + 1 → w = minS (fun s => arrS n sm s + (cval T D C am) (t - s)) (arrS n sm t) s.toNat → EX G mX6_passed d 0 0 (Ret (vJ (servS n sm (cval T D C am) t)) h) 9 [(0, vA r), (1, vA c), (2, vI t), (3, vJ w), (5, vI s)] [] h 0 0 := by
    intro k_9
    induction k_9 with
    | zero => intro w s hm; exact absurd hm (Nat.not_lt_zero _)
    | succ k_9 ih_9 =>
      intro w s hm_9 hs0 hs1 hw
      refine x_iload 4 dX6_passed_9 rfl ?_
      refine x_iload_n 2 dX6_passed_11 rfl rfl ?_
      refine x_icmp_gt 50 dX6_passed_12 (by decide) (fun c_12 => ?_) (fun c_12 => ?_)
      · refine x_lload_n 3 dX6_passed_50 rfl rfl ?_
        exact x_lreturn dX6_passed_51 rfl (by decide) (by decide) (retJ (by rw [serv_cut hro.1 (cval_M hok) ht0, hw]; congr 1; omega))
      · refine x_iload 4 dX6_passed_15 rfl ?_
        refine x_aload_n 0 dX6_passed_17 rfl rfl ?_
        refine x_get 1 dX6_passed_18 fl_X6_15 hr.1 rfl ?_
        refine x_icmp_gt 50 dX6_passed_21 (by decide) (fun c_21 => ?_) (fun c_21 => ?_)
        · refine x_lload_n 3 dX6_passed_50 rfl rfl ?_
          exact x_lreturn dX6_passed_51 rfl (by decide) (by decide) (retJ (by rw [serv_cut hro.1 (cval_M hok) ht0, hw]; congr 1; omega))
        · refine x_lload_n 3 dX6_passed_24 rfl rfl ?_
          refine x_aload_n 0 dX6_passed_25 rfl rfl ?_
          refine x_iload 4 dX6_passed_26 rfl ?_
          refine x_callV [vI s] dX6_passed_28 kv_X6_45 rfl rfl hr.1 (by omega) (Nat.le_of_ble_eq_true rfl) (by omega) (by omega) (k_X6_arrived (d := 1) (by omega) hr hro (t := s) (by omega)) (after_ret ?_)
          refine x_aload_n 1 dX6_passed_31 rfl rfl ?_
          refine x_iload_n 2 dX6_passed_32 rfl rfl ?_
          refine x_iload 4 dX6_passed_33 rfl ?_
          refine x_isub dX6_passed_35 (by unfold okI; omega) ?_
          refine x_callU [vI (t - s)] dX6_passed_36 (ku_X6_23 _ hcv.2.2) rfl rfl hcv.1 (by omega) (Nat.le_of_ble_eq_true rfl) (by omega) (by omega) (k_X1_amount (d := 0) hcv hok (t := t - s) (by omega)) (after_ret ?_)
          have b1 := arr_top (t := s) hro.1 hs0
          have b2 := cval_nn hok (show 0 ≤ t - s by omega)
          have b3 := cval_top hok (show 0 ≤ t - s by omega)
          refine x_ladd dX6_passed_39 (by unfold okJ; omega) ?_
          refine x_minJ dX6_passed_40 km_X6_48 (by omega) (Nat.le_of_ble_eq_true rfl) (by omega) (by omega) ?_
          refine x_nmJ (fun x2 e_x2 => ?_)
          refine x_lstore_n (L' := [(3, vJ x2), (0, vA r), (1, vA c), (2, vI t), (5, vI s)]) dX6_passed_43 rfl (Nat.le_of_ble_eq_true rfl) rfl ?_
          refine x_iinc 4 (L' := [(5, vI (s + 1)), (3, vJ x2), (0, vA r), (1, vA c), (2, vI t)]) dX6_passed_44 rfl (by unfold okI; omega) (Nat.le_of_ble_eq_true rfl) rfl ?_
          refine x_goto 9 dX6_passed_47 (by decide) ?_
          exact EX.pick [2, 3, 4, 1, 0] rfl (ih_9 x2 (s + 1)  (by omega) (by omega) (by omega) (by rw [minS_s hs0, ← hw, e_x2]))
  exact EX.pick [2, 3, 4, 1, 0] rfl (loop_9 ((min t n + 1 - (0 : Int)).toNat + 1) x1 0  (Nat.lt_succ_self _) (by omega) (by omega) (by rw [e_x1]; rfl))
set_option maxRecDepth 100000 in
set_option maxHeartbeats 4000000 in
theorem k_X6_held {G : aG} {d : Nat} (hd : 3 ≤ d) {h : aH} {r cr : Nat} {n : Int} {cm : Nat → Int} (hr : RunAt h r cr n cm) {sm : Nat → Int} (hro : RunOk n sm cm) {c ci a : Nat} {T D C ld : Int} {am : Nat → Int} (hcv : CvAt h c ci a T D C am ld) (hok : CvOk T D C am) {t : Int} (ht0 : 0 ≤ t) (ht : t ≤ 2000) : MC G mX6_held d 0 0 [vA r, vA c, vI t] h (Ret (vJ (arrS n sm t - servS n sm (cval T D C am) t)) h) := by
  obtain ⟨hT0, hT2, hD0, hD6, hC0, hC1, hA, hM, hW⟩ := id hok
  obtain ⟨⟨hn0, hn6, hsm⟩, hcm⟩ := id hro
  refine MC.of (by decide) (Nat.le_of_ble_eq_true rfl) (fun ok okh => ?_)
  show EX G mX6_held d 0 0 _ 0 [(0, vA r), (1, vA c), (2, vI t)] [] h 0 0
  refine x_aload_n 0 dX6_held_0 rfl rfl ?_
  refine x_iload_n 2 dX6_held_1 rfl rfl ?_
  refine x_callV [vI t] dX6_held_2 kv_X6_45 rfl rfl hr.1 (by omega) (Nat.le_of_ble_eq_true rfl) (by omega) (by omega) (k_X6_arrived (d := 1) (by omega) hr hro (t := t) (by omega)) (after_ret ?_)
  refine x_aload_n 0 dX6_held_5 rfl rfl ?_
  refine x_aload_n 1 dX6_held_6 rfl rfl ?_
  refine x_iload_n 2 dX6_held_7 rfl rfl ?_
  refine x_callV [vA c, vI t] dX6_held_8 kv_X6_51 rfl rfl hr.1 (by omega) (Nat.le_of_ble_eq_true rfl) (by omega) (by omega) (k_X6_passed (d := 2) (by omega) hr hro hcv hok (t := t) (by omega) (by omega)) (after_ret ?_)
  have b1 := arr_top (t := t) hro.1 ht0
  have b2 := serv_top (t := t) hro.1 (cval_M hok) ht0
  refine x_lsub dX6_held_11 (by unfold okJ; omega) ?_
  exact x_lreturn dX6_held_12 rfl (by decide) (by decide) ⟨rfl, rfl⟩
set_option maxRecDepth 100000 in
set_option maxHeartbeats 4000000 in
theorem k_X6_lateness {G : aG} {d : Nat} (hd : 3 ≤ d) {h : aH} {r cr : Nat} {n : Int} {cm : Nat → Int} (hr : RunAt h r cr n cm) {sm : Nat → Int} (hro : RunOk n sm cm) {c ci a : Nat} {T D C ld : Int} {am : Nat → Int} (hcv : CvAt h c ci a T D C am ld) (hok : CvOk T D C am) {t : Int} (ht0 : 0 ≤ t) (ht : t ≤ 100) : MC G mX6_lateness d 0 0 [vA r, vA c, vI t] h (Ret (vI (lateS n sm (cval T D C am) t)) h) := by
  obtain ⟨hT0, hT2, hD0, hD6, hC0, hC1, hA, hM, hW⟩ := id hok
  obtain ⟨⟨hn0, hn6, hsm⟩, hcm⟩ := id hro
  refine MC.of (by decide) (Nat.le_of_ble_eq_true rfl) (fun ok okh => ?_)
  show EX G mX6_lateness d 0 0 _ 0 [(0, vA r), (1, vA c), (2, vI t)] [] h 0 0
  refine x_aload_n 0 dX6_lateness_0 rfl rfl ?_
  refine x_iload_n 2 dX6_lateness_1 rfl rfl ?_
  refine x_callV [vI t] dX6_lateness_2 kv_X6_45 rfl rfl hr.1 (by omega) (Nat.le_of_ble_eq_true rfl) (by omega) (by omega) (k_X6_arrived (d := 1) (by omega) hr hro (t := t) (by omega)) (after_ret ?_)
  refine x_nmJ (fun x1 e_x1 => ?_)
  refine x_lstore_n (L' := [(3, vJ x1), (0, vA r), (1, vA c), (2, vI t)]) dX6_lateness_5 rfl (Nat.le_of_ble_eq_true rfl) rfl ?_
  refine x_iconst dX6_lateness_6 (okI_c rfl) ?_
  refine x_istore (L' := [(5, vI ((-1))), (3, vJ x1), (0, vA r), (1, vA c), (2, vI t)]) dX6_lateness_7 (Nat.le_of_ble_eq_true rfl) rfl ?_
  refine x_bipush dX6_lateness_9 (okI_c rfl) (by decide +kernel) ?_
  refine x_istore (L' := [(6, vI 8), (5, vI ((-1))), (3, vJ x1), (0, vA r), (1, vA c), (2, vI t)]) dX6_lateness_11 (Nat.le_of_ble_eq_true rfl) rfl ?_
  have loop_13 : ∀ (k_13 : Nat) (u : Int) (b : Int) , (b + 1).toNat < k_13 → -1 ≤ u → u ≤ 500 → -1 ≤ b → b ≤ 8 → (∀ w : Int, 0 ≤ w → w ≤ u → servS n sm (cval T D C am) (t + w) < arrS n sm t) → (∀ w : Int, u + 2 ^ (b + 1).toNat ≤ w → w ≤ 500 → arrS n sm t ≤ servS n sm (cval T D C am) (t + w)) → EX G mX6_lateness d 0 0 (Ret (vI (lateS n sm (cval T D C am) t)) h) 13 [(0, vA r), (1, vA c), (2, vI t), (3, vJ x1), (5, vI u), (6, vI b)] [] h 0 0 := by
    intro k_13
    induction k_13 with
    | zero => intro u b hm; exact absurd hm (Nat.not_lt_zero _)
    | succ k_13 ih_13 =>
      intro u b hm_13 hu0 hul hb0 hb1 hlo hhi
      refine x_iload 5 dX6_lateness_13 rfl ?_
      refine x_if_lt 59 dX6_lateness_15 (by decide) (fun c_15 => ?_) (fun c_15 => ?_)
      · have hps : (2 : Int) ^ (b + 1).toNat = 1 := by rw [show (b + 1).toNat = 0 by omega]; rfl
        refine x_iload 4 dX6_lateness_59 rfl ?_
        refine x_sipush dX6_lateness_61 (okI_c rfl) (by decide +kernel) ?_
        refine x_icmp_ge 74 dX6_lateness_64 (by decide) (fun c_64 => ?_) (fun c_64 => ?_)
        · refine x_iconst dX6_lateness_74 (okI_c rfl) ?_
          exact x_ireturn dX6_lateness_75 rfl (by decide) (by decide) (retI (First.eq (Or.inl ⟨rfl, fun w q1 q2 => hlo w q1 (by omega)⟩)))
        · refine x_iload 4 dX6_lateness_67 rfl ?_
          refine x_iconst dX6_lateness_69 (okI_c rfl) ?_
          refine x_iadd dX6_lateness_70 (by unfold okI; omega) ?_
          refine x_goto 75 dX6_lateness_71 (by decide) ?_
          exact x_ireturn dX6_lateness_75 rfl (by decide) (by decide) (retI (First.eq (Or.inr ⟨by omega, by omega, hhi _ (by omega) (by omega), fun w q1 q2 => hlo w q1 (by omega)⟩)))
      · refine x_iload 4 dX6_lateness_18 rfl ?_
        refine x_iconst dX6_lateness_20 (okI_c rfl) ?_
        refine x_iload 5 dX6_lateness_21 rfl ?_
        refine x_ishl (v := 2 ^ b.toNat) dX6_lateness_23 (by have := pow_le (b := b) (by omega) (by omega); unfold okI; omega) (shl1 (by omega) (by omega)) ?_
        have hpw := pow_le (b := b) (by omega) (by omega)
        have hps := pow_s (b := b) (by omega)
        refine x_iadd dX6_lateness_24 (by unfold okI; omega) ?_
        refine x_nmI (fun x2 e_x2 => ?_)
        refine x_istore (L' := [(7, vI x2), (0, vA r), (1, vA c), (2, vI t), (3, vJ x1), (5, vI u), (6, vI b)]) dX6_lateness_25 (Nat.le_of_ble_eq_true rfl) rfl ?_
        refine x_iload 0 dX6_lateness_27 rfl ?_
        refine x_sipush dX6_lateness_29 (okI_c rfl) (by decide +kernel) ?_
        refine x_icmp_gt 53 dX6_lateness_32 (by decide) (fun c_32 => ?_) (fun c_32 => ?_)
        · refine x_iinc 6 (L' := [(6, vI (b + (-1))), (7, vI x2), (0, vA r), (1, vA c), (2, vI t), (3, vJ x1), (5, vI u)]) dX6_lateness_53 rfl (by unfold okI; omega) (Nat.le_of_ble_eq_true rfl) rfl ?_
          refine x_goto 13 dX6_lateness_56 (by decide) ?_
          exact EX.pick [2, 3, 4, 5, 6, 0] rfl (ih_13 u (b + (-1))  (by omega) (by omega) (by omega) (by omega) (by omega) (fun w q1 q2 => hlo w q1 q2) (fun w q1 q2 => by rw [show b + -1 + 1 = b by omega] at q1; first | omega | (have := serv_mono hro.1 (cval_M hok) (show 0 ≤ t + x2 by omega) (show t + x2 ≤ t + w by omega); omega)))
        · refine x_aload_n 1 dX6_lateness_35 rfl rfl ?_
          refine x_aload_n 2 dX6_lateness_36 rfl rfl ?_
          refine x_iload_n 3 dX6_lateness_37 rfl rfl ?_
          refine x_iload 0 dX6_lateness_38 rfl ?_
          refine x_iadd dX6_lateness_40 (by unfold okI; omega) ?_
          refine x_callV [vA c, vI (t + x2)] dX6_lateness_41 kv_X6_51 rfl rfl hr.1 (by omega) (Nat.le_of_ble_eq_true rfl) (by omega) (by omega) (k_X6_passed (d := 2) (by omega) hr hro hcv hok (t := t + x2) (by omega) (by omega)) (after_ret ?_)
          refine x_lload_n 4 dX6_lateness_44 rfl rfl ?_
          refine x_lc_ge 53 dX6_lateness_45 dX6_lateness_46 (by decide) (fun c_45 => ?_) (fun c_45 => ?_)
          · refine x_iinc 6 (L' := [(6, vI (b + (-1))), (7, vI x2), (0, vA r), (1, vA c), (2, vI t), (3, vJ x1), (5, vI u)]) dX6_lateness_53 rfl (by unfold okI; omega) (Nat.le_of_ble_eq_true rfl) rfl ?_
            refine x_goto 13 dX6_lateness_56 (by decide) ?_
            exact EX.pick [2, 3, 4, 5, 6, 0] rfl (ih_13 u (b + (-1))  (by omega) (by omega) (by omega) (by omega) (by omega) (fun w q1 q2 => hlo w q1 q2) (fun w q1 q2 => by rw [show b + -1 + 1 = b by omega] at q1; first | omega | (have := serv_mono hro.1 (cval_M hok) (show 0 ≤ t + x2 by omega) (show t + x2 ≤ t + w by omega); omega)))
          · refine x_iload 0 dX6_lateness_49 rfl ?_
            refine x_istore (L' := [(5, vI x2), (7, vI x2), (0, vA r), (1, vA c), (2, vI t), (3, vJ x1), (6, vI b)]) dX6_lateness_51 (Nat.le_of_ble_eq_true rfl) rfl ?_
            refine x_iinc 6 (L' := [(6, vI (b + (-1))), (5, vI x2), (7, vI x2), (0, vA r), (1, vA c), (2, vI t), (3, vJ x1)]) dX6_lateness_53 rfl (by unfold okI; omega) (Nat.le_of_ble_eq_true rfl) rfl ?_
            refine x_goto 13 dX6_lateness_56 (by decide) ?_
            exact EX.pick [3, 4, 5, 6, 1, 0] rfl (ih_13 x2 (b + (-1))  (by omega) (by omega) (by omega) (by omega) (by omega) (fun w q1 q2 => by by_cases q : w ≤ u; exact hlo w q1 q; have := serv_mono hro.1 (cval_M hok) (show 0 ≤ t + w by omega) (show t + w ≤ t + x2 by omega); omega) (fun w q1 q2 => hhi w (by rw [show b + -1 + 1 = b by omega] at q1; omega) q2))
  exact EX.pick [3, 4, 5, 2, 1, 0] rfl (loop_13 (((8 : Int) + 1).toNat + 1) (-1) 8  (Nat.lt_succ_self _) (by omega) (by omega) (by omega) (by omega) (fun w q1 q2 => by omega) (fun w q1 q2 => by have : ((2 : Int) ^ (8 + 1 : Int).toNat) = 512 := (by decide); omega))
set_option maxRecDepth 100000 in
set_option maxHeartbeats 4000000 in
theorem k_X6_greatestHeld {G : aG} {d : Nat} (hd : 4 ≤ d) {h : aH} {r cr : Nat} {n : Int} {cm : Nat → Int} (hr : RunAt h r cr n cm) {sm : Nat → Int} (hro : RunOk n sm cm) {c ci a : Nat} {T D C ld : Int} {am : Nat → Int} (hcv : CvAt h c ci a T D C am ld) (hok : CvOk T D C am) : MC G mX6_greatestHeld d 0 0 [vA r, vA c] h (Ret (vJ (sup0 (fun t => arrS n sm t - servS n sm (cval T D C am) t) (n + 1).toNat)) h) := by
  obtain ⟨hT0, hT2, hD0, hD6, hC0, hC1, hA, hM, hW⟩ := id hok
  obtain ⟨⟨hn0, hn6, hsm⟩, hcm⟩ := id hro
  refine MC.of (by decide) (Nat.le_of_ble_eq_true rfl) (fun ok okh => ?_)
  show EX G mX6_greatestHeld d 0 0 _ 0 [(0, vA r), (1, vA c)] [] h 0 0
  refine x_lconst (x := 0) dX6_greatestHeld_0 (okJ_c rfl) rfl ?_
  refine x_lstore_n (L' := [(2, vJ 0), (0, vA r), (1, vA c)]) dX6_greatestHeld_1 rfl (Nat.le_of_ble_eq_true rfl) rfl ?_
  refine x_iconst dX6_greatestHeld_2 (okI_c rfl) ?_
  refine x_istore (L' := [(4, vI 0), (2, vJ 0), (0, vA r), (1, vA c)]) dX6_greatestHeld_3 (Nat.le_of_ble_eq_true rfl) rfl ?_
  have loop_5 : ∀ (k_5 : Nat) (w : Int) (t : Int) , (n + 1 - t).toNat < k_5 → 0 ≤ t → t ≤ n + 1 → w = sup0 (fun t => arrS n sm t - servS n sm (cval T D C am) t) t.toNat → EX G mX6_greatestHeld d 0 0 (Ret (vJ (sup0 (fun t => arrS n sm t - servS n sm (cval T D C am) t) (n + 1).toNat)) h) 5 [(0, vA r), (1, vA c), (2, vJ w), (4, vI t)] [] h 0 0 := by
    intro k_5
    induction k_5 with
    | zero => intro w t hm; exact absurd hm (Nat.not_lt_zero _)
    | succ k_5 ih_5 =>
      intro w t hm_5 ht0 ht1 hw
      refine x_iload 3 dX6_greatestHeld_5 rfl ?_
      refine x_aload_n 0 dX6_greatestHeld_7 rfl rfl ?_
      refine x_get 1 dX6_greatestHeld_8 fl_X6_15 hr.1 rfl ?_
      refine x_icmp_gt 32 dX6_greatestHeld_11 (by decide) (fun c_11 => ?_) (fun c_11 => ?_)
      · refine x_lload_n 2 dX6_greatestHeld_32 rfl rfl ?_
        exact x_lreturn dX6_greatestHeld_33 rfl (by decide) (by decide) (retJ (by rw [hw]; congr 1; omega))
      · refine x_lload_n 2 dX6_greatestHeld_14 rfl rfl ?_
        refine x_aload_n 0 dX6_greatestHeld_15 rfl rfl ?_
        refine x_aload_n 1 dX6_greatestHeld_16 rfl rfl ?_
        refine x_iload 3 dX6_greatestHeld_17 rfl ?_
        refine x_callV [vA c, vI t] dX6_greatestHeld_19 kv_X6_54 rfl rfl hr.1 (by omega) (Nat.le_of_ble_eq_true rfl) (by omega) (by omega) (k_X6_held (d := 3) (by omega) hr hro hcv hok (t := t) (by omega) (by omega)) (after_ret ?_)
        refine x_maxJ dX6_greatestHeld_22 km_X6_57 (by omega) (Nat.le_of_ble_eq_true rfl) (by omega) (by omega) ?_
        refine x_nmJ (fun x1 e_x1 => ?_)
        refine x_lstore_n (L' := [(2, vJ x1), (0, vA r), (1, vA c), (4, vI t)]) dX6_greatestHeld_25 rfl (Nat.le_of_ble_eq_true rfl) rfl ?_
        refine x_iinc 3 (L' := [(4, vI (t + 1)), (2, vJ x1), (0, vA r), (1, vA c)]) dX6_greatestHeld_26 rfl (by unfold okI; omega) (Nat.le_of_ble_eq_true rfl) rfl ?_
        refine x_goto 5 dX6_greatestHeld_29 (by decide) ?_
        exact EX.pick [2, 3, 1, 0] rfl (ih_5 x1 (t + 1)  (by omega) (by omega) (by omega) (by rw [sup0_s ht0, ← hw, e_x1]))
  exact EX.pick [2, 3, 1, 0] rfl (loop_5 ((n + 1 - (0 : Int)).toNat + 1) 0 0  (Nat.lt_succ_self _) (by omega) (by omega) rfl)
theorem mostLateS_t {n : Int} {sm : Nat → Int} {G : Int → Int} (h : ∀ t : Int, 0 ≤ t → t ≤ n → lateS n sm G t ≠ -1) : mostLateS n sm G = sup0 (lateS n sm G) (n + 1).toNat := by rw [mostLateS, if_pos h]
theorem mostLateS_f {n t : Int} {sm : Nat → Int} {G : Int → Int} (h0 : 0 ≤ t) (h1 : t ≤ n) (h : lateS n sm G t = -1) : mostLateS n sm G = -1 := by rw [mostLateS, if_neg (fun q => q t h0 h1 h)]
theorem late_le (n : Int) (sm : Nat → Int) (G : Int → Int) (t : Int) : -1 ≤ lateS n sm G t ∧ lateS n sm G t ≤ 500 := by
  rcases firstS_spec (fun w => servS n sm G (t + w)) (arrS n sm t) 500 with ⟨q, _⟩ | ⟨q1, q2, _⟩
  · have e : lateS n sm G t = -1 := q
    omega
  · exact ⟨by show -1 ≤ firstS _ _ _; omega, q2⟩
set_option maxRecDepth 100000 in
set_option maxHeartbeats 4000000 in
theorem k_X6_greatestLateness {G : aG} {d : Nat} (hd : 4 ≤ d) {h : aH} {r cr : Nat} {n : Int} {cm : Nat → Int} (hr : RunAt h r cr n cm) {sm : Nat → Int} (hro : RunOk n sm cm) {c ci a : Nat} {T D C ld : Int} {am : Nat → Int} (hcv : CvAt h c ci a T D C am ld) (hok : CvOk T D C am) : MC G mX6_greatestLateness d 0 0 [vA r, vA c] h (Ret (vI (mostLateS n sm (cval T D C am))) h) := by
  obtain ⟨hT0, hT2, hD0, hD6, hC0, hC1, hA, hM, hW⟩ := id hok
  obtain ⟨⟨hn0, hn6, hsm⟩, hcm⟩ := id hro
  refine MC.of (by decide) (Nat.le_of_ble_eq_true rfl) (fun ok okh => ?_)
  show EX G mX6_greatestLateness d 0 0 _ 0 [(0, vA r), (1, vA c)] [] h 0 0
  refine x_iconst dX6_greatestLateness_0 (okI_c rfl) ?_
  refine x_istore_n (L' := [(2, vI 0), (0, vA r), (1, vA c)]) dX6_greatestLateness_1 rfl (Nat.le_of_ble_eq_true rfl) rfl ?_
  refine x_iconst dX6_greatestLateness_2 (okI_c rfl) ?_
  refine x_istore_n (L' := [(3, vI 0), (2, vI 0), (0, vA r), (1, vA c)]) dX6_greatestLateness_3 rfl (Nat.le_of_ble_eq_true rfl) rfl ?_
  have loop_4 : ∀ (k_4 : Nat) (w : Int) (t : Int) , (n + 1 - t).toNat < k_4 → 0 ≤ t → t ≤ n + 1 → (∀ y : Int, 0 ≤ y → y < t → lateS n sm (cval T D C am) y ≠ -1) → w = sup0 (lateS n sm (cval T D C am)) t.toNat → w ≤ 500 → EX G mX6_greatestLateness d 0 0 (Ret (vI (mostLateS n sm (cval T D C am))) h) 4 [(0, vA r), (1, vA c), (2, vI w), (3, vI t)] [] h 0 0 := by
    intro k_4
    induction k_4 with
    | zero => intro w t hm; exact absurd hm (Nat.not_lt_zero _)
    | succ k_4 ih_4 =>
      intro w t hm_4 ht0 ht1 hall hw hw0
      refine x_iload_n 3 dX6_greatestLateness_4 rfl rfl ?_
      refine x_aload_n 0 dX6_greatestLateness_5 rfl rfl ?_
      refine x_get 1 dX6_greatestLateness_6 fl_X6_15 hr.1 rfl ?_
      refine x_icmp_gt 41 dX6_greatestLateness_9 (by decide) (fun c_9 => ?_) (fun c_9 => ?_)
      · refine x_iload_n 2 dX6_greatestLateness_41 rfl rfl ?_
        exact x_ireturn dX6_greatestLateness_42 rfl (by decide) (by decide) (retI (by rw [mostLateS_t (fun y q1 q2 => hall y q1 (by omega)), hw]; congr 1; omega))
      · refine x_aload_n 0 dX6_greatestLateness_12 rfl rfl ?_
        refine x_aload_n 1 dX6_greatestLateness_13 rfl rfl ?_
        refine x_iload_n 3 dX6_greatestLateness_14 rfl rfl ?_
        refine x_callV [vA c, vI t] dX6_greatestLateness_15 kv_X6_60 rfl rfl hr.1 (by omega) (Nat.le_of_ble_eq_true rfl) (by omega) (by omega) (k_X6_lateness (d := 3) (by omega) hr hro hcv hok (t := t) (by omega) (by omega)) (after_ret ?_)
        refine x_nmI (fun x1 e_x1 => ?_)
        refine x_istore (L' := [(4, vI x1), (0, vA r), (1, vA c), (2, vI w), (3, vI t)]) dX6_greatestLateness_18 (Nat.le_of_ble_eq_true rfl) rfl ?_
        refine x_iload 0 dX6_greatestLateness_20 rfl ?_
        refine x_iconst dX6_greatestLateness_22 (okI_c rfl) ?_
        refine x_icmp_ne 28 dX6_greatestLateness_23 (by decide) (fun c_23 => ?_) (fun c_23 => ?_)
        · refine x_iload_n 3 dX6_greatestLateness_28 rfl rfl ?_
          refine x_iload 0 dX6_greatestLateness_29 rfl ?_
          refine x_maxI dX6_greatestLateness_31 km_X6_64 (by omega) (Nat.le_of_ble_eq_true rfl) (by omega) (by omega) ?_
          refine x_nmI (fun x2 e_x2 => ?_)
          refine x_istore_n (L' := [(2, vI x2), (4, vI x1), (0, vA r), (1, vA c), (3, vI t)]) dX6_greatestLateness_34 rfl (Nat.le_of_ble_eq_true rfl) rfl ?_
          refine x_iinc 4 (L' := [(3, vI (t + 1)), (2, vI x2), (4, vI x1), (0, vA r), (1, vA c)]) dX6_greatestLateness_35 rfl (by unfold okI; omega) (Nat.le_of_ble_eq_true rfl) rfl ?_
          refine x_goto 4 dX6_greatestLateness_38 (by decide) ?_
          have hle := late_le n sm (cval T D C am) t
          exact EX.pick [3, 4, 1, 0] rfl (ih_4 x2 (t + 1)  (by omega) (by omega) (by omega) (fun y q1 q2 => by by_cases q : y < t; exact hall y q1 q; have e : y = t := (by omega); rw [e, ← e_x1]; exact c_23) (by rw [sup0_s ht0, ← hw, ← e_x1, e_x2]) (by omega))
        · refine x_iconst dX6_greatestLateness_26 (okI_c rfl) ?_
          exact x_ireturn dX6_greatestLateness_27 rfl (by decide) (by decide) (retI (mostLateS_f ht0 (by omega) (by omega)).symm)
  exact EX.pick [2, 3, 1, 0] rfl (loop_4 ((n + 1 - (0 : Int)).toNat + 1) 0 0  (Nat.lt_succ_self _) (by omega) (by omega) (fun y q1 q2 => by omega) rfl (by omega))
set_option maxRecDepth 100000 in
set_option maxHeartbeats 4000000 in
theorem k_X6_staysWithin {G : aG} {d : Nat} (hd : 2 ≤ d) {h : aH} {r cr : Nat} {n : Int} {cm : Nat → Int} (hr : RunAt h r cr n cm) {sm : Nat → Int} (hro : RunOk n sm cm) {c ci a : Nat} {T D C ld : Int} {am : Nat → Int} (hcv : CvAt h c ci a T D C am ld) (hok : CvOk T D C am) : MC G mX6_staysWithin d 0 0 [vA r, vA c] h (Ret (vI (b2i (keepsS n sm (cval T D C am)))) h) := by
  obtain ⟨hT0, hT2, hD0, hD6, hC0, hC1, hA, hM, hW⟩ := id hok
  obtain ⟨⟨hn0, hn6, hsm⟩, hcm⟩ := id hro
  refine MC.of (by decide) (Nat.le_of_ble_eq_true rfl) (fun ok okh => ?_)
  show EX G mX6_staysWithin d 0 0 _ 0 [(0, vA r), (1, vA c)] [] h 0 0
  refine x_iconst dX6_staysWithin_0 (okI_c rfl) ?_
  refine x_istore_n (L' := [(2, vI 0), (0, vA r), (1, vA c)]) dX6_staysWithin_1 rfl (Nat.le_of_ble_eq_true rfl) rfl ?_
  have loop_2 : ∀ (k_2 : Nat) (t : Int) , (n + 1 - t).toNat < k_2 → 0 ≤ t → t ≤ n + 1 → (∀ x y : Int, 0 ≤ y → y ≤ x → x < t → arrS n sm x - arrS n sm y ≤ (cval T D C am) (x - y)) → EX G mX6_staysWithin d 0 0 (Ret (vI (b2i (keepsS n sm (cval T D C am)))) h) 2 [(0, vA r), (1, vA c), (2, vI t)] [] h 0 0 := by
    intro k_2
    induction k_2 with
    | zero => intro t hm; exact absurd hm (Nat.not_lt_zero _)
    | succ k_2 ih_2 =>
      intro t hm_2 ht0 ht1 hall
      refine x_iload_n 2 dX6_staysWithin_2 rfl rfl ?_
      refine x_aload_n 0 dX6_staysWithin_3 rfl rfl ?_
      refine x_get 1 dX6_staysWithin_4 fl_X6_15 hr.1 rfl ?_
      refine x_icmp_gt 53 dX6_staysWithin_7 (by decide) (fun c_7 => ?_) (fun c_7 => ?_)
      · refine x_iconst dX6_staysWithin_53 (okI_c rfl) ?_
        exact x_zreturn dX6_staysWithin_54 rfl (Or.inr rfl) (by decide) (by decide) (retI (b2i_t (fun x y q1 q2 q3 => hall x y q1 q2 (by omega))).symm)
      · refine x_iconst dX6_staysWithin_10 (okI_c rfl) ?_
        refine x_istore_n (L' := [(3, vI 0), (0, vA r), (1, vA c), (2, vI t)]) dX6_staysWithin_11 rfl (Nat.le_of_ble_eq_true rfl) rfl ?_
        have loop_12 : ∀ (k_12 : Nat) (s : Int) , (t + 1 - s).toNat < k_12 → 0 ≤ s → s ≤ t + 1 → (∀ y : Int, 0 ≤ y → y < s → arrS n sm t - arrS n sm y ≤ (cval T D C am) (t - y)) → EX G mX6_staysWithin d 0 0 (Ret (vI (b2i (keepsS n sm (cval T D C am)))) h) 12 [(0, vA r), (1, vA c), (2, vI t), (3, vI s)] [] h 0 0 := by
          intro k_12
          induction k_12 with
          | zero => intro s hm; exact absurd hm (Nat.not_lt_zero _)
          | succ k_12 ih_12 =>
            intro s hm_12 hs0 hs1 hin
            refine x_iload_n 3 dX6_staysWithin_12 rfl rfl ?_
            refine x_iload_n 2 dX6_staysWithin_13 rfl rfl ?_
            refine x_icmp_gt 47 dX6_staysWithin_14 (by decide) (fun c_14 => ?_) (fun c_14 => ?_)
            · refine x_iinc 2 (L' := [(2, vI (t + 1)), (0, vA r), (1, vA c), (3, vI s)]) dX6_staysWithin_47 rfl (by unfold okI; omega) (Nat.le_of_ble_eq_true rfl) rfl ?_
              refine x_goto 2 dX6_staysWithin_50 (by decide) ?_
              exact EX.pick [1, 2, 0] rfl (ih_2 (t + 1)  (by omega) (by omega) (by omega) (fun x y q1 q2 q3 => by by_cases q : x < t; exact hall x y q1 q2 q; have e : x = t := (by omega); subst e; exact hin y q1 (by omega)))
            · refine x_aload_n 0 dX6_staysWithin_17 rfl rfl ?_
              refine x_iload_n 2 dX6_staysWithin_18 rfl rfl ?_
              refine x_callV [vI t] dX6_staysWithin_19 kv_X6_45 rfl rfl hr.1 (by omega) (Nat.le_of_ble_eq_true rfl) (by omega) (by omega) (k_X6_arrived (d := 1) (by omega) hr hro (t := t) (by omega)) (after_ret ?_)
              refine x_aload_n 0 dX6_staysWithin_22 rfl rfl ?_
              refine x_iload_n 3 dX6_staysWithin_23 rfl rfl ?_
              refine x_callV [vI s] dX6_staysWithin_24 kv_X6_45 rfl rfl hr.1 (by omega) (Nat.le_of_ble_eq_true rfl) (by omega) (by omega) (k_X6_arrived (d := 1) (by omega) hr hro (t := s) (by omega)) (after_ret ?_)
              have b1 := arr_top (t := t) hro.1 ht0
              have b2 := arr_top (t := s) hro.1 hs0
              refine x_lsub dX6_staysWithin_27 (by unfold okJ; omega) ?_
              refine x_aload_n 1 dX6_staysWithin_28 rfl rfl ?_
              refine x_iload_n 2 dX6_staysWithin_29 rfl rfl ?_
              refine x_iload_n 3 dX6_staysWithin_30 rfl rfl ?_
              refine x_isub dX6_staysWithin_31 (by unfold okI; omega) ?_
              refine x_callU [vI (t - s)] dX6_staysWithin_32 (ku_X6_23 _ hcv.2.2) rfl rfl hcv.1 (by omega) (Nat.le_of_ble_eq_true rfl) (by omega) (by omega) (k_X1_amount (d := 0) hcv hok (t := t - s) (by omega)) (after_ret ?_)
              refine x_lc_le 41 dX6_staysWithin_35 dX6_staysWithin_36 (by decide) (fun c_35 => ?_) (fun c_35 => ?_)
              · refine x_iinc 3 (L' := [(3, vI (s + 1)), (0, vA r), (1, vA c), (2, vI t)]) dX6_staysWithin_41 rfl (by unfold okI; omega) (Nat.le_of_ble_eq_true rfl) rfl ?_
                refine x_goto 12 dX6_staysWithin_44 (by decide) ?_
                exact EX.pick [1, 2, 3, 0] rfl (ih_12 (s + 1)  (by omega) (by omega) (by omega) (fun y q1 q2 => by by_cases q : y < s; exact hin y q1 q; have e : y = s := (by omega); subst e; exact c_35))
              · refine x_iconst dX6_staysWithin_39 (okI_c rfl) ?_
                exact x_zreturn dX6_staysWithin_40 rfl (Or.inl rfl) (by decide) (by decide) (retI (b2i_f (fun q => by have := q t s hs0 (by omega) (by omega); omega)).symm)
        exact EX.pick [1, 2, 3, 0] rfl (loop_12 ((t + 1 - (0 : Int)).toNat + 1) 0  (Nat.lt_succ_self _) (by omega) (by omega) (fun y q1 q2 => by omega))
  exact EX.pick [1, 2, 0] rfl (loop_2 ((n + 1 - (0 : Int)).toNat + 1) 0  (Nat.lt_succ_self _) (by omega) (by omega) (fun x y q1 q2 q3 => by omega))
def Aft (h : aH) (q : Nat) : Prop := h q = none ∧ ∀ b : Nat, (h b).isSome = true → b < q
theorem RunOk.add {n x : Int} {sm cm : Nat → Int} (ok : RunOk n sm cm) (hlt : n < 60) (hx : sm n.toNat = x) (hx0 : 0 ≤ x) (hx1 : x ≤ 1000000000) : RunOk (n + 1) sm (va_up cm (n + 1).toNat (cm n.toNat + x)) := by
  obtain ⟨⟨h0, h1, h2⟩, h3⟩ := ok
  refine ⟨⟨by omega, by omega, fun k q1 q2 => ?_⟩, fun k q1 q2 => ?_⟩
  · by_cases e : k = n
    · subst e; omega
    · exact h2 k q1 (by omega)
  · by_cases e : k = n + 1
    · subst e
      rw [va_up_self, psum_s h0, h3 n h0 (Int.le_refl n), hx]
    · rw [va_up_ne _ _ (by omega)]
      exact h3 k q1 (by omega)
theorem hstep_nn {F : Int → Int} (hF : Mono F) {t : Int} (ht : 1 ≤ t) : 0 ≤ hstep F t := by
  unfold hstep
  by_cases h : t = 1
  · rw [if_pos h]; exact hF.1 1 (by omega)
  · rw [if_neg h]; have := hF.2 (t - 1) t (by omega) (by omega); omega
set_option maxRecDepth 100000 in
set_option maxHeartbeats 4000000 in
theorem k_X6_follow {G : aG} {d : Nat} (hd : 3 ≤ d) {h : aH} {r cr : Nat} {n : Int} {cm : Nat → Int} (hr : RunAt h r cr n cm) {c ci a : Nat} {T D C ld : Int} {am : Nat → Int} (hcv : CvAt h c ci a T D C am ld) (hok : CvOk T D C am) (hcr : c ≠ r) (hacr : a ≠ cr) {n2 : Int} (hn0 : 0 ≤ n2) (hn6 : n2 ≤ 60) (hc0 : cm 0 = 0) (hcf : ∀ t : Int, 1 ≤ t → t ≤ n2 → hstep (cval T D C am) t ≤ 1000000000) : MC G mX6_follow d 0 0 [vA r, vA c, vI n2] h (fun r' h' => r' = none ∧ ∃ cm' : Nat → Int, h' = hset (hset h cr (eJ 61 cm')) r (eO 5 [vA cr, vI n2]) ∧ RunOk n2 (fun k : Nat => hstep (cval T D C am) (k + 1)) cm') := by
  obtain ⟨hT0, hT2, hD0, hD6, hC0, hC1, hA, hM, hW⟩ := id hok
  refine MC.of (by decide) (Nat.le_of_ble_eq_true rfl) (fun ok okh => ?_)
  show EX G mX6_follow d 0 0 _ 0 [(0, vA r), (1, vA c), (2, vI n2)] [] h 0 0
  refine x_aload_n 0 dX6_follow_0 rfl rfl ?_
  refine x_iconst dX6_follow_1 (okI_c rfl) ?_
  refine x_put 1 dX6_follow_2 pu_X6_15 hr.1 rfl rfl (Nat.le_of_ble_eq_true rfl) ?_
  refine x_iconst dX6_follow_5 (okI_c rfl) ?_
  refine x_istore_n (L' := [(3, vI 1), (0, vA r), (1, vA c), (2, vI n2)]) dX6_follow_6 rfl (Nat.le_of_ble_eq_true rfl) rfl ?_
  have loop_7 : ∀ (k_7 : Nat) (t : Int) (cmi : Nat → Int), (n2 + 1 - t).toNat < k_7 → 1 ≤ t → t ≤ n2 + 1 → RunOk (t - 1) (fun k : Nat => hstep (cval T D C am) (k + 1)) cmi → EX G mX6_follow d 0 0 (fun r' h' => r' = none ∧ ∃ cm' : Nat → Int, h' = hset (hset h cr (eJ 61 cm')) r (eO 5 [vA cr, vI n2]) ∧ RunOk n2 (fun k : Nat => hstep (cval T D C am) (k + 1)) cm') 7 [(0, vA r), (1, vA c), (2, vI n2), (3, vI t)] [] (hset (hset h cr (eJ 61 cmi)) r (eO 5 [vA cr, vI (t - 1)])) 0 0 := by
    intro k_7
    induction k_7 with
    | zero => intro t cmi hm; exact absurd hm (Nat.not_lt_zero _)
    | succ k_7 ih_7 =>
      intro t cmi hm_7 ht1 ht2 hri
      refine x_iload_n 3 dX6_follow_7 rfl rfl ?_
      refine x_iload_n 2 dX6_follow_8 rfl rfl ?_
      refine x_icmp_gt 27 dX6_follow_9 (by decide) (fun c_9 => ?_) (fun c_9 => ?_)
      · exact x_return dX6_follow_27 rfl (by decide) (by decide) ⟨rfl, cmi, by rw [show t - 1 = n2 by omega], by rw [show t - 1 = n2 by omega] at hri; exact hri⟩
      · refine x_aload_n 0 dX6_follow_12 rfl rfl ?_
        refine x_aload_n 1 dX6_follow_13 rfl rfl ?_
        refine x_iload_n 3 dX6_follow_14 rfl rfl ?_
        refine x_callS [vA c, vI t] dX6_follow_15 ks_X6_29 rfl rfl (by omega) (Nat.le_of_ble_eq_true rfl) (by omega) (by omega) (k_X6_hardestStep (d := 1) (by omega) (h := (hset (hset h cr (eJ 61 cmi)) r (eO 5 [vA cr, vI (t - 1)]))) ((hcv.keep (neOJ hcv.1 hr.2) hacr).keep hcr (Ne.symm (neOJ hr.1 hcv.2.1))) hok (t := t) (by omega) (by omega)) (after_ret ?_)
        refine x_callV [vJ (hstep (cval T D C am) t)] dX6_follow_18 kv_X6_35 rfl rfl (hset_eq _ _ _) (by omega) (Nat.le_of_ble_eq_true rfl) (by omega) (by omega) (k_X6_add (d := 2) (by omega) (h := (hset (hset h cr (eJ 61 cmi)) r (eO 5 [vA cr, vI (t - 1)]))) ⟨(hset_eq _ _ _), ((hset_ne _ _ (Ne.symm (neOJ hr.1 hr.2))).trans (hset_eq _ _ _))⟩ hri (hstep_nn (cval_M hok) ht1) (hcf t ht1 (by omega)) (by omega)) (after_void ?_)
        refine x_iinc 3 (L' := [(3, vI (t + 1)), (0, vA r), (1, vA c), (2, vI n2)]) dX6_follow_21 rfl (by unfold okI; omega) (Nat.le_of_ble_eq_true rfl) rfl ?_
        refine x_goto 7 dX6_follow_24 (by decide) ?_
        exact EX.pick [1, 2, 3, 0] rfl (x_ash (by rw [show t + 1 - 1 = t - 1 + 1 by omega]; funext b; by_cases q1 : b = cr <;> by_cases q2 : b = r <;> simp [hset, q1, q2]) (ih_7 (t + 1) (va_up cmi (t - 1 + 1).toNat (cmi (t - 1).toNat + hstep (cval T D C am) t)) (by omega) (by omega) (by omega) (by have q := RunOk.add hri (x := hstep (cval T D C am) t) (by omega) (by show hstep (cval T D C am) (((t - 1).toNat : Nat) + 1) = _; congr 1; omega) (hstep_nn (cval_M hok) ht1) (hcf t ht1 (by omega)); rw [show t + 1 - 1 = t - 1 + 1 by omega]; exact q)))
  exact EX.pick [1, 2, 3, 0] rfl (x_ash (by funext b; by_cases q1 : b = cr <;> by_cases q2 : b = r <;> simp [hset, q1, q2, hr.2]) (loop_7 ((n2 + 1 - (1 : Int)).toNat + 1) 1 cm (Nat.lt_succ_self _) (by omega) (by omega) ⟨⟨by omega, by omega, fun k q1 q2 => by omega⟩, fun k q1 q2 => by rw [show k = 0 by omega]; exact hc0⟩))
set_option maxRecDepth 100000 in
set_option maxHeartbeats 4000000 in
theorem k_X6_init {G : aG} {d : Nat} (hd : 1 ≤ d) {h : aH} {r : Nat} (hr : h r = some (eO 5 [vN, vI 0])) : MC G mX6_init d 1 61 [vA r] h (fun r' h' => r' = none ∧ ∃ q : Nat, Aft h q ∧ h' = hset (hset h q (eJ 61 (fun _ => 0))) r (eO 5 [vA q, vI 0])) := by
  refine MC.of (by decide) (Nat.le_of_ble_eq_true rfl) (fun ok okh => ?_)
  show EX G mX6_init d 1 61 _ 0 [(0, vA r)] [] h 0 0
  refine x_aload_n 0 dX6_init_0 rfl rfl ?_
  refine x_objInit dX6_init_1 ko_X6_3 (by omega) (Nat.le_of_ble_eq_true rfl) ?_
  refine x_aload_n 0 dX6_init_4 rfl rfl ?_
  refine x_bipush dX6_init_5 (okI_c rfl) (by decide +kernel) ?_
  refine x_newJ dX6_init_7 (by omega) (by omega) (by omega) (by omega) (fun q n_q l_q => ?_)
  refine x_putF 0 dX6_init_9 rfl pu_X6_9 ((hset_ne _ _ (fun z => by rw [z, n_q] at hr; cases hr)).trans hr) rfl rfl (Nat.le_of_ble_eq_true rfl) ?_
  refine x_aload_n 0 dX6_init_12 rfl rfl ?_
  refine x_iconst dX6_init_13 (okI_c rfl) ?_
  refine x_put 1 dX6_init_14 pu_X6_15 (hset_eq _ _ _) rfl rfl (Nat.le_of_ble_eq_true rfl) ?_
  exact x_return dX6_init_17 rfl (by omega) (by omega) ⟨rfl, q, ⟨n_q, l_q⟩, by rw [hset_hset]; rfl⟩
