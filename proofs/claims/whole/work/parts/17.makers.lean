/-! ===== Maker: its makings ===== -/
/-- the maker's own rows may be any now, all else is as it was -/
def Scr (m md on ot : Nat) (h h1 : aH) : Prop := ∃ g f1 f2 : Nat → Int, MakAt h1 m md on ot g f1 f2 ∧ (∀ b : Nat, b ≠ md → b ≠ on → b ≠ ot → h1 b = h b) ∧ ∀ b : Nat, (h1 b).isSome = (h b).isSome
theorem Scr.made {h : aH} {m md on ot : Nat} {g f1 f2 : Nat → Int} (k : MakAt h m md on ot g f1 f2) (g' : Nat → Int) : Scr m md on ot h (hset h md (eJ 600 g')) := by
  refine ⟨g', f1, f2, k.made g', fun b q _ _ => hset_ne _ _ q, fun b => ?_⟩
  by_cases q : b = md
  · subst q; rw [hset_eq, k.2.1]; rfl
  · rw [hset_ne _ _ q]
theorem MakAt.three {h : aH} {m md on ot : Nat} {g f1 f2 : Nat → Int} (k : MakAt h m md on ot g f1 f2) (a b : Nat → Int) : MakAt (hset (hset h on (eJ 600 a)) ot (eJ 600 b)) m md on ot g a b := by
  obtain ⟨k1, k2, k3, k4, k5, k6⟩ := k
  exact ⟨(hset_ne _ _ (neOJ k1 k4)).trans ((hset_ne _ _ (neOJ k1 k3)).trans k1), (hset_ne _ _ (by omega)).trans ((hset_ne _ _ (by omega)).trans k2), (hset_ne _ _ (by omega)).trans (hset_eq _ _ _), hset_eq _ _ _, k5, k6⟩
theorem Scr.three {h : aH} {m md on ot : Nat} {g f1 f2 : Nat → Int} (k : MakAt h m md on ot g f1 f2) (a b g' : Nat → Int) : Scr m md on ot h (hset (hset (hset h on (eJ 600 a)) ot (eJ 600 b)) md (eJ 600 g')) := by
  refine ⟨g', a, b, (k.three a b).made g', fun c q1 q2 q3 => by rw [hset_ne _ _ q1, hset_ne _ _ q3, hset_ne _ _ q2], fun c => ?_⟩
  by_cases q1 : c = md
  · subst q1; rw [hset_eq, k.2.1]; rfl
  · rw [hset_ne _ _ q1]
    by_cases q3 : c = ot
    · subst q3; rw [hset_eq, k.2.2.2.1]; rfl
    · rw [hset_ne _ _ q3]
      by_cases q2 : c = on
      · subst q2; rw [hset_eq, k.2.2.1]; rfl
      · rw [hset_ne _ _ q2]
theorem x_mkret {G : aG} {X : aM} {d mc ms : Nat} {Q : Option aV → aH → Prop} {pc : Nat} {L : List (Nat × aV)} {kc ks : Nat} {h0 h1 : aH} {H : Int → Int} {P c : Int} {r1 : Option aV} {ty : FieldType} (q1 : MkOut h0 H P c r1 h1) (hd : decode X.2.1 pc = .ok (.areturn, 1)) (hr : X.2.2.2 = some ty) (hty : (∃ n, ty = .object n) ∨ ∃ t, ty = .array t) (hc : kc ≤ mc) (hs : ks ≤ ms) (hq : Q r1 h1) : EX G X d mc ms Q pc L (r1.toList ++ []) h1 kc ks := by
  rcases q1 with ⟨rfl, rfl, -⟩ | ⟨T, D, C, -, a, c, ci, am, ld, -, -, rfl, -⟩
  · exact x_areturn (r := none) hd hr hty hc hs hq
  · exact x_areturn (r := some c) hd hr hty hc hs hq
/-- the six ways in one -/
def wayS (w : Int) (F G : Int → Int) (n t : Int) : Int := if w < 3 then sideS w F G t else if w = 3 then restS F G t else if w = 4 then bothS F G t else offS F G n t
def wayC (w a b : Int) : Int := if w = 0 then a + b else if w = 2 then max a b else if w = 3 then max 0 (a - b) else if w = 5 then a else min a b
theorem way_mono {F G : Int → Int} (hF : Mono F) (hG : Mono G) (w n : Int) : Mono (wayS w F G n) := by
  by_cases h1 : w < 3
  · have e : wayS w F G n = sideS w F G := by funext t; rw [wayS, if_pos h1]
    rw [e]; exact side_mono hF hG w
  · by_cases h2 : w = 3
    · have e : wayS w F G n = restS F G := by funext t; rw [wayS, if_neg h1, if_pos h2]
      rw [e]; exact rest_mono F G
    · by_cases h3 : w = 4
      · have e : wayS w F G n = bothS F G := by funext t; rw [wayS, if_neg h1, if_neg h2, if_pos h3]
        rw [e]; exact both_mono hF hG
      · have e : wayS w F G n = offS F G n := by funext t; rw [wayS, if_neg h1, if_neg h2, if_neg h3]
        rw [e]; exact off_mono hF n
theorem way_bnd {F G : Int → Int} {k n B : Int} (hF : Bnd F (k + n) B) (hG : Bnd G (k + n) B) (hFm : Mono F) (hGm : Mono G) (hB : 0 ≤ B) (hn : 0 ≤ n) (hk : 0 ≤ k) (w : Int) : Bnd (wayS w F G n) k (2 * B) := by
  have f1 : Bnd F k B := fun t a b => hF t a (by omega)
  have g1 : Bnd G k B := fun t a b => hG t a (by omega)
  have g2 : Bnd G n B := fun t a b => hG t a (by omega)
  intro t h0 ht
  unfold wayS
  (repeat' split)
  · exact side_bnd f1 g1 w t h0 ht
  · have := rest_bnd f1 g1 t h0 ht; omega
  · exact both_bnd f1 g1 hFm hGm t h0 ht
  · have := off_bnd (k := n) hF g2 hB t h0 ht; omega
theorem way_turn {F G : Int → Int} {w n T1 T2 fr P a b : Int} (hw0 : 0 ≤ w) (hw5 : w ≤ 5) (hT1 : 0 ≤ T1) (hT2 : 0 ≤ T2) (h1 : T1 ≤ fr) (h2 : T2 ≤ fr) (h4 : w = 4 → T1 + T2 + P ≤ fr) (hP : 1 ≤ P) (ha : 0 ≤ a) (hF : Per F T1 P a) (hG : Per G T2 P b)
    (h : ∀ t : Int, fr ≤ t → t < fr + P → wayS w F G n (t + P) = wayS w F G n t + wayC w a b) : Per (wayS w F G n) fr P (wayC w a b) := by
  by_cases c1 : w < 3
  · have e : wayS w F G n = sideS w F G := by funext t; rw [wayS, if_pos c1]
    have ec : wayC w a b = (if w = 0 then a + b else if w = 1 then min a b else max a b) := by unfold wayC; (repeat' split) <;> omega
    rw [e, ec] at h ⊢
    exact side_turn hP (hF.later h1) (hG.later h2) (by omega) h
  · by_cases c2 : w = 3
    · have e : wayS w F G n = restS F G := by funext t; rw [wayS, if_neg c1, if_pos c2]
      have ec : wayC w a b = max 0 (a - b) := by unfold wayC; rw [if_neg (by omega), if_neg (by omega), if_pos c2]
      rw [e, ec] at h ⊢
      exact rest_turn (by omega) hP (hF.later h1) (hG.later h2) h
    · by_cases c3 : w = 4
      · have e : wayS w F G n = bothS F G := by funext t; rw [wayS, if_neg c1, if_neg c2, if_pos c3]
        have ec : wayC w a b = min a b := by unfold wayC; rw [if_neg (by omega), if_neg (by omega), if_neg (by omega), if_neg (by omega)]
        rw [e, ec] at h ⊢
        exact both_turn hT1 hT2 (h4 c3) hP hF hG h
      · have e : wayS w F G n = offS F G n := by funext t; rw [wayS, if_neg c1, if_neg c2, if_neg c3]
        have ec : wayC w a b = a := by unfold wayC; rw [if_neg (by omega), if_neg (by omega), if_neg (by omega), if_pos (by omega)]
        rw [e, ec] at h ⊢
        exact off_turn hP (hF.later h1) (by omega) ha h
theorem wayC_b {w a b : Int} (ha : 0 ≤ a) (hb : 0 ≤ b) (ha1 : a ≤ 60000000000) (hb1 : b ≤ 60000000000) : 0 ≤ wayC w a b ∧ wayC w a b ≤ 120000000000 := by
  unfold wayC; (repeat' split) <;> omega
theorem gain_b {C D p : Int} (h0 : 0 ≤ C) (h1 : C ≤ 1000000000) (hD : 1 ≤ D) (hp0 : 0 ≤ p) (hp : p ≤ 60) : 0 ≤ C * (p / D) ∧ C * (p / D) ≤ 60000000000 := by
  have q1 : 0 ≤ p / D := Int.ediv_nonneg hp0 (by omega)
  have q2 : p / D ≤ p := Int.ediv_le_self _ hp0
  exact mulB (X := 1000000000) (Y := 60) h0 q1 h1 (by omega)
set_option maxRecDepth 100000 in
set_option maxHeartbeats 4000000 in
theorem k_X3_init {G : aG} {d : Nat} (hd : 1 ≤ d) {h : aH} {m : Nat} (hm : h m = some (eO 3 [vN, vN, vN])) : MC G mX3_init d 3 1800 [vA m] h (fun r' h' => r' = none ∧ ∃ md on ot : Nat, md < on ∧ on < ot ∧ Aft h md ∧ h on = none ∧ h ot = none ∧ h' = hset (hset (hset (hset h md (eJ 600 (fun _ => 0))) on (eJ 600 (fun _ => 0))) ot (eJ 600 (fun _ => 0))) m (eO 3 [vA md, vA on, vA ot])) := by
  refine MC.of (by decide) (Nat.le_of_ble_eq_true rfl) (fun ok okh => ?_)
  show EX G mX3_init d 3 1800 _ 0 [(0, vA m)] [] h 0 0
  refine x_aload_n 0 dX3_init_0 rfl rfl ?_
  refine x_objInit dX3_init_1 ko_X3_3 (by omega) (Nat.le_of_ble_eq_true rfl) ?_
  refine x_aload_n 0 dX3_init_4 rfl rfl ?_
  refine x_sipush dX3_init_5 (okI_c rfl) (by decide +kernel) ?_
  refine x_newJ dX3_init_8 (by omega) (by omega) (by omega) (by omega) (fun md n_md l_md => ?_)
  have m1 : m ≠ md := fun z => by rw [z, n_md] at hm; cases hm
  refine x_putF 0 dX3_init_10 rfl pu_X3_11 ((hset_ne _ _ m1).trans hm) rfl rfl (Nat.le_of_ble_eq_true rfl) ?_
  refine x_aload_n 0 dX3_init_13 rfl rfl ?_
  refine x_sipush dX3_init_14 (okI_c rfl) (by decide +kernel) ?_
  refine x_newJ dX3_init_17 (by omega) (by omega) (by omega) (by omega) (fun on n_on l_on => ?_)
  have m2 : on ≠ m := fun z => by rw [z, hset_eq] at n_on; cases n_on
  have o1 : md < on := l_on md (by rw [hset_ne _ _ (Ne.symm m1), hset_eq]; rfl)
  refine x_putF 1 dX3_init_19 rfl pu_X3_15 ((hset_ne _ _ (Ne.symm m2)).trans (hset_eq _ _ _)) rfl rfl (Nat.le_of_ble_eq_true rfl) ?_
  refine x_aload_n 0 dX3_init_22 rfl rfl ?_
  refine x_sipush dX3_init_23 (okI_c rfl) (by decide +kernel) ?_
  refine x_newJ dX3_init_26 (by omega) (by omega) (by omega) (by omega) (fun ot n_ot l_ot => ?_)
  have m3 : ot ≠ m := fun z => by rw [z, hset_eq] at n_ot; cases n_ot
  have o2 : on < ot := l_ot on (by rw [hset_ne _ _ m2, hset_eq]; rfl)
  refine x_putF 2 dX3_init_28 rfl pu_X3_18 ((hset_ne _ _ (Ne.symm m3)).trans (hset_eq _ _ _)) rfl rfl (Nat.le_of_ble_eq_true rfl) ?_
  exact x_return dX3_init_31 rfl (by omega) (by omega) ⟨rfl, md, on, ot, o1, o2, ⟨n_md, l_md⟩, by rw [hset_ne _ _ m2, hset_ne _ _ (by omega)] at n_on; exact n_on, by rw [hset_ne _ _ m3, hset_ne _ _ (by omega), hset_ne _ _ m3, hset_ne _ _ (by omega)] at n_ot; exact n_ot, by funext b; by_cases q1 : b = m <;> by_cases q2 : b = md <;> by_cases q3 : b = on <;> by_cases q4 : b = ot <;> simp [hset, q1, q2, q3, q4, m1, m2, m3, Ne.symm m1, Ne.symm m2, Ne.symm m3]⟩
set_option maxRecDepth 100000 in
set_option maxHeartbeats 4000000 in
theorem k_X3_straight {G : aG} {d : Nat} (hd : 6 ≤ d) {h : aH} {m md on ot : Nat} {g f1 f2 : Nat → Int} (hm : MakAt h m md on ot g f1 f2) {c : Int} (hc0 : 0 ≤ c) (hc : c ≤ 1000000000) : MC G mX3_straight d 2 265 [vA m, vI c] h (fun r' h' => ∃ h1 : aH, Scr m md on ot h h1 ∧ MkOut h1 (fun t => c * t) (1) (c) r' h') := by
  refine MC.of (by decide) (Nat.le_of_ble_eq_true rfl) (fun ok okh => ?_)
  show EX G mX3_straight d 2 265 _ 0 [(0, vA m), (1, vI c)] [] h 0 0
  refine x_aload_n 0 dX3_straight_0 rfl rfl ?_
  refine x_get 0 dX3_straight_1 fl_X3_11 hm.1 rfl ?_
  refine x_iconst dX3_straight_4 (okI_c rfl) ?_
  refine x_lconst (x := 0) dX3_straight_5 (okJ_c rfl) rfl ?_
  refine x_lastore dX3_straight_6 hm.2.1 (by omega) (by omega) ?_
  refine x_aload_n 0 dX3_straight_7 rfl rfl ?_
  refine x_get 0 dX3_straight_8 fl_X3_11 ((hset_ne _ _ (neOJ hm.1 hm.2.1)).trans hm.1) rfl ?_
  refine x_iconst dX3_straight_11 (okI_c rfl) ?_
  refine x_iload_n 1 dX3_straight_12 rfl rfl ?_
  refine x_i2l dX3_straight_13 ?_
  refine x_lastore dX3_straight_14 (hset_eq _ _ _) (by omega) (by omega) ?_
  refine x_ash (hset_hset _ _ _ _) ?_
  refine x_aload_n 0 dX3_straight_15 rfl rfl ?_
  refine x_iconst dX3_straight_16 (okI_c rfl) ?_
  refine x_iconst dX3_straight_17 (okI_c rfl) ?_
  refine x_callV [vI 0, vI 1] dX3_straight_18 kv_X3_21 rfl rfl ((hset_ne _ _ (neOJ hm.1 hm.2.1)).trans hm.1) (by omega) (Nat.le_of_ble_eq_true rfl) (by omega) (by omega) (k_X3_settled (d := 5) (by omega) (hm.made (va_up (va_up g (0 : Int).toNat 0) (1 : Int).toNat c)) (H := fun t => c * t) (fr := 0) (tu := 1) (fun t q1 q2 => by rcases (show t = 0 ∨ t = 1 by omega) with rfl | rfl; simp [va_up]; simp [va_up]) (fun t q1 q2 => by rcases (show t = 0 ∨ t = 1 by omega) with rfl | rfl; exact ⟨by show 0 ≤ c * 0; omega, by show c * 0 ≤ 4000000000000000; omega⟩; exact ⟨by show 0 ≤ c * 1; omega, by show c * 1 ≤ 4000000000000000; omega⟩) (by omega) (by omega) (by omega) (by omega) ⟨fun s hs => Int.mul_nonneg hc0 hs, fun s u hs hu => Int.mul_le_mul_of_nonneg_left hu hc0⟩ (c := c) (fun t q => by show c * (t + 1) = c * t + c; rw [Int.mul_add, Int.mul_one])) (fun r1 h1 q1 => x_mkret q1 dX3_straight_21 rfl (by first | exact Or.inl ⟨_, rfl⟩ | exact Or.inr ⟨_, rfl⟩) (by omega) (by omega) (⟨_, Scr.made hm _, q1⟩))
set_option maxRecDepth 100000 in
set_option maxHeartbeats 4000000 in
theorem k_X3_multiplied {G : aG} {d : Nat} (hd : 6 ≤ d) {h : aH} {m md on ot : Nat} {g f1 f2 : Nat → Int} (hm : MakAt h m md on ot g f1 f2) {c ci a : Nat} {T D C ld : Int} {am : Nat → Int} (hcv : CvAt h c ci a T D C am ld) (hok : CvOk T D C am) (ham : a ≠ md) {n : Int} (hn0 : 0 ≤ n) (hn : n ≤ 1000) : MC G mX3_multiplied d 2 265 [vA m, vA c, vI n] h (fun r' h' => ∃ h1 : aH, Scr m md on ot h h1 ∧ MkOut h1 (timesS n (cval T D C am)) (D) (n * C) r' h') := by
  obtain ⟨hT0, hT2, hD0, hD6, hC0, hC1, hA, hM, hW⟩ := id hok
  refine MC.of (by decide) (Nat.le_of_ble_eq_true rfl) (fun ok okh => ?_)
  show EX G mX3_multiplied d 2 265 _ 0 [(0, vA m), (1, vA c), (2, vI n)] [] h 0 0
  refine x_aload_n 1 dX3_multiplied_0 rfl rfl ?_
  refine x_get 0 dX3_multiplied_1 (fl_X3_25 _ hcv.2.2) hcv.1 rfl ?_
  refine x_iconst dX3_multiplied_4 (okI_c rfl) ?_
  refine x_aload_n 1 dX3_multiplied_5 rfl rfl ?_
  refine x_get 1 dX3_multiplied_6 (fl_X3_31 _ hcv.2.2) hcv.1 rfl ?_
  refine x_imul dX3_multiplied_9 (by unfold okI; omega) ?_
  refine x_iadd dX3_multiplied_10 (by unfold okI; omega) ?_
  refine x_sipush dX3_multiplied_11 (okI_c rfl) (by decide +kernel) ?_
  refine x_minI dX3_multiplied_14 km_X3_34 (by omega) (Nat.le_of_ble_eq_true rfl) (by omega) (by omega) ?_
  refine x_nmI (fun x1 e_x1 => ?_)
  refine x_istore_n (L' := [(3, vI x1), (0, vA m), (1, vA c), (2, vI n)]) dX3_multiplied_17 rfl (Nat.le_of_ble_eq_true rfl) rfl ?_
  refine x_iconst dX3_multiplied_18 (okI_c rfl) ?_
  refine x_istore (L' := [(4, vI 0), (3, vI x1), (0, vA m), (1, vA c), (2, vI n)]) dX3_multiplied_19 (Nat.le_of_ble_eq_true rfl) rfl ?_
  have loop_21 : ∀ (k_21 : Nat) (t : Int) (gi : Nat → Int), (x1 - t).toNat < k_21 → 0 ≤ t → t ≤ x1 → Tells gi (timesS n (cval T D C am)) t → EX G mX3_multiplied d 2 265 (fun r' h' => ∃ h1 : aH, Scr m md on ot h h1 ∧ MkOut h1 (timesS n (cval T D C am)) (D) (n * C) r' h') 21 [(0, vA m), (1, vA c), (2, vI n), (3, vI x1), (4, vI t)] [] (hset h md (eJ 600 gi)) 0 0 := by
    intro k_21
    induction k_21 with
    | zero => intro t gi hm; exact absurd hm (Nat.not_lt_zero _)
    | succ k_21 ih_21 =>
      intro t gi hm_21 ht0 ht1 htl
      refine x_iload 4 dX3_multiplied_21 rfl ?_
      refine x_iload_n 3 dX3_multiplied_23 rfl rfl ?_
      refine x_icmp_ge 49 dX3_multiplied_24 (by decide) (fun c_24 => ?_) (fun c_24 => ?_)
      · refine x_aload_n 0 dX3_multiplied_49 rfl rfl ?_
        refine x_aload_n 1 dX3_multiplied_50 rfl rfl ?_
        refine x_get 0 dX3_multiplied_51 (fl_X3_25 _ hcv.2.2) ((hset_ne _ _ (neOJ hcv.1 hm.2.1)).trans hcv.1) rfl ?_
        refine x_aload_n 1 dX3_multiplied_54 rfl rfl ?_
        refine x_get 1 dX3_multiplied_55 (fl_X3_31 _ hcv.2.2) ((hset_ne _ _ (neOJ hcv.1 hm.2.1)).trans hcv.1) rfl ?_
        refine x_callV [vI T, vI D] dX3_multiplied_58 kv_X3_21 rfl rfl ((hset_ne _ _ (neOJ hm.1 hm.2.1)).trans hm.1) (by omega) (Nat.le_of_ble_eq_true rfl) (by omega) (by omega) (k_X3_settled (d := 5) (by omega) (hm.made gi) (H := timesS n (cval T D C am)) (fr := T) (tu := D) (fun t q1 q2 => htl t q1 (by omega)) (times_bnd hn0 hn (cval_bnd4 hok (by omega))) (by omega) (by omega) (by omega) (by omega) (times_mono hn0 (cval_M hok)) (times_per (fun t ht => cval_per hD0 ht))) (fun r1 h1 q1 => x_mkret q1 dX3_multiplied_61 rfl (by first | exact Or.inl ⟨_, rfl⟩ | exact Or.inr ⟨_, rfl⟩) (by omega) (by omega) (⟨_, Scr.made hm _, q1⟩))
      · refine x_aload_n 0 dX3_multiplied_27 rfl rfl ?_
        refine x_get 0 dX3_multiplied_28 fl_X3_11 ((hset_ne _ _ (neOJ hm.1 hm.2.1)).trans hm.1) rfl ?_
        refine x_iload 4 dX3_multiplied_31 rfl ?_
        refine x_aload_n 1 dX3_multiplied_33 rfl rfl ?_
        refine x_iload 4 dX3_multiplied_34 rfl ?_
        refine x_callU [vI t] dX3_multiplied_36 (ku_X3_40 _ hcv.2.2) rfl rfl ((hset_ne _ _ (neOJ hcv.1 hm.2.1)).trans hcv.1) (by omega) (Nat.le_of_ble_eq_true rfl) (by omega) (by omega) (k_X1_amount (d := 0) (hcv.keep (neOJ hcv.1 hm.2.1) ham) hok (t := t) ht0) (after_ret ?_)
        refine x_iload_n 2 dX3_multiplied_39 rfl rfl ?_
        refine x_i2l dX3_multiplied_40 ?_
        have b1 := cval_nn hok ht0
        have b2 := cval_top hok ht0
        have b3 := mulB (x := cval T D C am t) (y := n) (X := 2000000000000) (Y := 1000) b1 hn0 (by omega) hn
        refine x_lmul dX3_multiplied_41 (by unfold okJ; omega) ?_
        refine x_lastore dX3_multiplied_42 (hset_eq _ _ _) (by omega) (by omega) ?_
        refine x_iinc 4 (L' := [(4, vI (t + 1)), (0, vA m), (1, vA c), (2, vI n), (3, vI x1)]) dX3_multiplied_43 rfl (by unfold okI; omega) (Nat.le_of_ble_eq_true rfl) rfl ?_
        refine x_goto 21 dX3_multiplied_46 (by decide) ?_
        exact EX.pick [1, 2, 3, 4, 0] rfl (x_ash (hset_hset _ _ _ _) (ih_21 (t + 1) (va_up gi t.toNat (cval T D C am t * n)) (by omega) (by omega) (by omega) (htl.up ht0 rfl)))
  exact EX.pick [2, 3, 4, 1, 0] rfl (x_ash (hset_self hm.2.1).symm (loop_21 ((x1 - (0 : Int)).toNat + 1) 0 g (Nat.lt_succ_self _) (by omega) (by omega) (fun u q1 q2 => by omega)))
set_option maxRecDepth 100000 in
set_option maxHeartbeats 4000000 in
theorem k_X3_delayed {G : aG} {d : Nat} (hd : 6 ≤ d) {h : aH} {m md on ot : Nat} {g f1 f2 : Nat → Int} (hm : MakAt h m md on ot g f1 f2) {c ci a : Nat} {T D C ld : Int} {am : Nat → Int} (hcv : CvAt h c ci a T D C am ld) (hok : CvOk T D C am) (ham : a ≠ md) {n : Int} (hn0 : 0 ≤ n) (hn : n ≤ 200) : MC G mX3_delayed d 2 265 [vA m, vA c, vI n] h (fun r' h' => ∃ h1 : aH, Scr m md on ot h h1 ∧ MkOut h1 (shiftS n (cval T D C am)) (D) (C) r' h') := by
  obtain ⟨hT0, hT2, hD0, hD6, hC0, hC1, hA, hM, hW⟩ := id hok
  refine MC.of (by decide) (Nat.le_of_ble_eq_true rfl) (fun ok okh => ?_)
  show EX G mX3_delayed d 2 265 _ 0 [(0, vA m), (1, vA c), (2, vI n)] [] h 0 0
  refine x_iload_n 2 dX3_delayed_0 rfl rfl ?_
  refine x_aload_n 1 dX3_delayed_1 rfl rfl ?_
  refine x_get 0 dX3_delayed_2 (fl_X3_25 _ hcv.2.2) hcv.1 rfl ?_
  refine x_iadd dX3_delayed_5 (by unfold okI; omega) ?_
  refine x_iconst dX3_delayed_6 (okI_c rfl) ?_
  refine x_aload_n 1 dX3_delayed_7 rfl rfl ?_
  refine x_get 1 dX3_delayed_8 (fl_X3_31 _ hcv.2.2) hcv.1 rfl ?_
  refine x_imul dX3_delayed_11 (by unfold okI; omega) ?_
  refine x_iadd dX3_delayed_12 (by unfold okI; omega) ?_
  refine x_sipush dX3_delayed_13 (okI_c rfl) (by decide +kernel) ?_
  refine x_minI dX3_delayed_16 km_X3_34 (by omega) (Nat.le_of_ble_eq_true rfl) (by omega) (by omega) ?_
  refine x_nmI (fun x1 e_x1 => ?_)
  refine x_istore_n (L' := [(3, vI x1), (0, vA m), (1, vA c), (2, vI n)]) dX3_delayed_19 rfl (Nat.le_of_ble_eq_true rfl) rfl ?_
  refine x_iconst dX3_delayed_20 (okI_c rfl) ?_
  refine x_istore (L' := [(4, vI 0), (3, vI x1), (0, vA m), (1, vA c), (2, vI n)]) dX3_delayed_21 (Nat.le_of_ble_eq_true rfl) rfl ?_
  have loop_23 : ∀ (k_23 : Nat) (t : Int) (gi : Nat → Int), (x1 - t).toNat < k_23 → 0 ≤ t → t ≤ x1 → Tells gi (shiftS n (cval T D C am)) t → EX G mX3_delayed d 2 265 (fun r' h' => ∃ h1 : aH, Scr m md on ot h h1 ∧ MkOut h1 (shiftS n (cval T D C am)) (D) (C) r' h') 23 [(0, vA m), (1, vA c), (2, vI n), (3, vI x1), (4, vI t)] [] (hset h md (eJ 600 gi)) 0 0 := by
    intro k_23
    induction k_23 with
    | zero => intro t gi hm; exact absurd hm (Nat.not_lt_zero _)
    | succ k_23 ih_23 =>
      intro t gi hm_23 ht0 ht1 htl
      refine x_iload 4 dX3_delayed_23 rfl ?_
      refine x_iload_n 3 dX3_delayed_25 rfl rfl ?_
      refine x_icmp_ge 60 dX3_delayed_26 (by decide) (fun c_26 => ?_) (fun c_26 => ?_)
      · refine x_aload_n 0 dX3_delayed_60 rfl rfl ?_
        refine x_iload_n 2 dX3_delayed_61 rfl rfl ?_
        refine x_aload_n 1 dX3_delayed_62 rfl rfl ?_
        refine x_get 0 dX3_delayed_63 (fl_X3_25 _ hcv.2.2) ((hset_ne _ _ (neOJ hcv.1 hm.2.1)).trans hcv.1) rfl ?_
        refine x_iadd dX3_delayed_66 (by unfold okI; omega) ?_
        refine x_aload_n 1 dX3_delayed_67 rfl rfl ?_
        refine x_get 1 dX3_delayed_68 (fl_X3_31 _ hcv.2.2) ((hset_ne _ _ (neOJ hcv.1 hm.2.1)).trans hcv.1) rfl ?_
        refine x_callV [vI (n + T), vI D] dX3_delayed_71 kv_X3_21 rfl rfl ((hset_ne _ _ (neOJ hm.1 hm.2.1)).trans hm.1) (by omega) (Nat.le_of_ble_eq_true rfl) (by omega) (by omega) (k_X3_settled (d := 5) (by omega) (hm.made gi) (H := shiftS n (cval T D C am)) (fr := n + T) (tu := D) (fun t q1 q2 => htl t q1 (by omega)) (shift_bnd hn0 (by omega) (fun t q1 q2 => by have := cval_bnd hok (show n + T + 2 * D ≤ 3000 by omega) t q1 q2; omega)) (by omega) (by omega) (by omega) (by omega) (shift_mono (cval_M hok)) (shift_per hT0 (by omega) (fun t ht => cval_per hD0 ht))) (fun r1 h1 q1 => x_mkret q1 dX3_delayed_74 rfl (by first | exact Or.inl ⟨_, rfl⟩ | exact Or.inr ⟨_, rfl⟩) (by omega) (by omega) (⟨_, Scr.made hm _, q1⟩))
      · refine x_aload_n 0 dX3_delayed_29 rfl rfl ?_
        refine x_get 0 dX3_delayed_30 fl_X3_11 ((hset_ne _ _ (neOJ hm.1 hm.2.1)).trans hm.1) rfl ?_
        refine x_iload 4 dX3_delayed_33 rfl ?_
        refine x_iload 4 dX3_delayed_35 rfl ?_
        refine x_iload_n 2 dX3_delayed_37 rfl rfl ?_
        refine x_icmp_ge 45 dX3_delayed_38 (by decide) (fun c_38 => ?_) (fun c_38 => ?_)
        · refine x_aload_n 1 dX3_delayed_45 rfl rfl ?_
          refine x_iload 4 dX3_delayed_46 rfl ?_
          refine x_iload_n 2 dX3_delayed_48 rfl rfl ?_
          refine x_isub dX3_delayed_49 (by unfold okI; omega) ?_
          refine x_callU [vI (t - n)] dX3_delayed_50 (ku_X3_40 _ hcv.2.2) rfl rfl ((hset_ne _ _ (neOJ hcv.1 hm.2.1)).trans hcv.1) (by omega) (Nat.le_of_ble_eq_true rfl) (by omega) (by omega) (k_X1_amount (d := 0) (hcv.keep (neOJ hcv.1 hm.2.1) ham) hok (t := t - n) (by omega)) (after_ret ?_)
          refine x_lastore dX3_delayed_53 (hset_eq _ _ _) (by omega) (by omega) ?_
          refine x_iinc 4 (L' := [(4, vI (t + 1)), (0, vA m), (1, vA c), (2, vI n), (3, vI x1)]) dX3_delayed_54 rfl (by unfold okI; omega) (Nat.le_of_ble_eq_true rfl) rfl ?_
          refine x_goto 23 dX3_delayed_57 (by decide) ?_
          exact EX.pick [1, 2, 3, 4, 0] rfl (x_ash (hset_hset _ _ _ _) (ih_23 (t + 1) (va_up gi t.toNat (cval T D C am (t - n))) (by omega) (by omega) (by omega) (htl.up ht0 (by rw [shiftS, if_neg (by omega)]))))
        · refine x_lconst (x := 0) dX3_delayed_41 (okJ_c rfl) rfl ?_
          refine x_goto 53 dX3_delayed_42 (by decide) ?_
          refine x_lastore dX3_delayed_53 (hset_eq _ _ _) (by omega) (by omega) ?_
          refine x_iinc 4 (L' := [(4, vI (t + 1)), (0, vA m), (1, vA c), (2, vI n), (3, vI x1)]) dX3_delayed_54 rfl (by unfold okI; omega) (Nat.le_of_ble_eq_true rfl) rfl ?_
          refine x_goto 23 dX3_delayed_57 (by decide) ?_
          exact EX.pick [1, 2, 3, 4, 0] rfl (x_ash (hset_hset _ _ _ _) (ih_23 (t + 1) (va_up gi t.toNat 0) (by omega) (by omega) (by omega) (htl.up ht0 (by rw [shiftS, if_pos c_38]))))
  exact EX.pick [2, 3, 4, 1, 0] rfl (x_ash (hset_self hm.2.1).symm (loop_23 ((x1 - (0 : Int)).toNat + 1) 0 g (Nat.lt_succ_self _) (by omega) (by omega) (fun u q1 q2 => by omega)))
