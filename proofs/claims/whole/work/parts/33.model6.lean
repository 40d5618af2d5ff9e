/-! ===== FlowCurvesModel: first, heap, wait ===== -/
theorem span_first {F : Int → Int} {v x last : Int} (h : SpanU F v x) (h0 : 0 ≤ x) (h1 : x ≤ last) : firstS F v last = x := by
  refine (First.eq (Or.inr ⟨h0, h1, ?_⟩)).symm
  rcases h with z | z
  · have := z.1; omega
  · exact ⟨z.2.1, z.2.2⟩
theorem span_far {F : Int → Int} {v x last : Int} (h : SpanU F v x) (h1 : x = -1 ∨ last < x) : firstS F v last = -1 := by
  refine (First.eq (Or.inl ⟨rfl, fun t q1 q2 => ?_⟩)).symm
  rcases h with z | z
  · exact z.2 t q1
  · exact z.2.2 t q1 (by omega)
theorem wq {F G : Int → Int} {T1 T2 M p a b W : Int} (hp : 1 ≤ p) (h1 : T1 ≤ M) (h2 : T2 ≤ M) (h20 : 0 ≤ T2) (hM : 0 ≤ M) (hF : Per F T1 p a) (hG : Per G T2 p b) (hGm : Mono G) (hab : a ≤ b) (hW : 0 ≤ W) (h : ∀ t : Int, 0 ≤ t → t < M + p → ∃ s : Int, 0 ≤ s ∧ F t ≤ G s ∧ s ≤ t + W) {t : Int} (ht : 0 ≤ t) : ∃ s : Int, 0 ≤ s ∧ F t ≤ G s ∧ s ≤ t + W := by
  by_cases q : t < M
  · exact h t ht (by omega)
  · refine turn_ind (Q := fun t => ∃ s : Int, 0 ≤ s ∧ F t ≤ G s ∧ s ≤ t + W) hp (a := M) (fun t q1 q2 => h t (by omega) q2) (fun t q1 q2 => ?_) t (by omega)
    obtain ⟨s, r1, r2, r3⟩ := q2
    have e1 := hF t (by omega)
    by_cases q3 : T2 ≤ s
    · have e2 := hG s q3
      exact ⟨s + p, by omega, by omega, by omega⟩
    · have e2 := hG T2 (Int.le_refl _)
      have := hGm.2 s T2 r1 (by omega)
      exact ⟨T2 + p, by omega, by omega, by omega⟩
theorem wait_yes {F G : Int → Int} {n : Int} (h : waitS F G n ≠ -1) : (∀ t : Int, 0 ≤ t → t < n → spanS F G t ≠ -1) ∧ waitS F G n = sup0 (fun t => spanS F G t - t) n.toNat := by
  by_cases q : ∀ t : Int, 0 ≤ t → t < n → spanS F G t ≠ -1
  · exact ⟨q, by rw [waitS, if_pos q]⟩
  · rw [waitS, if_neg q] at h; exact absurd rfl h
theorem span_in {F G : Int → Int} {t : Int} (h : spanS F G t ≠ -1) : 0 ≤ spanS F G t ∧ spanS F G t ≤ t + 1000000000 ∧ F t ≤ G (spanS F G t) := by
  rcases firstS_spec G (F t) (t + 1000000000) with z | z
  · exact absurd z.1 h
  · exact ⟨z.1, z.2.1, z.2.2.1⟩
theorem wait_near {F G : Int → Int} {T1 T2 M p a b : Int} (hp : 1 ≤ p) (h1 : T1 ≤ M) (h2 : T2 ≤ M) (h20 : 0 ≤ T2) (hM : 0 ≤ M) (hF : Per F T1 p a) (hG : Per G T2 p b) (hGm : Mono G) (hab : a ≤ b) {t : Int} (h : waitS F G (M + p) ≠ -1) (ht : 0 ≤ t) : ∃ s : Int, 0 ≤ s ∧ F t ≤ G s ∧ s ≤ t + 1000000000 :=
  wq hp h1 h2 h20 hM hF hG hGm hab (by omega) (fun t q1 q2 => ⟨_, (span_in ((wait_yes h).1 t q1 q2)).1, (span_in ((wait_yes h).1 t q1 q2)).2.2, (span_in ((wait_yes h).1 t q1 q2)).2.1⟩) ht
theorem wait_no {F G : Int → Int} {T1 T2 M p a b : Int} (hp : 1 ≤ p) (h1 : T1 ≤ M) (h2 : T2 ≤ M) (h20 : 0 ≤ T2) (hM : 0 ≤ M) (hF : Per F T1 p a) (hG : Per G T2 p b) (hGm : Mono G) (hab : a ≤ b) {t x : Int} (ht : 0 ≤ t) (hx : SpanU G (F t) x) (hx1 : x = -1 ∨ t + 1000000000 < x) : waitS F G (M + p) = -1 := by
  refine Classical.byContradiction fun h => ?_
  obtain ⟨s, r1, r2, r3⟩ := wait_near hp h1 h2 h20 hM hF hG hGm hab h ht
  rcases hx with z | z
  · have := z.2 s r1; omega
  · have := z.2.2 s r1 (by omega); omega
theorem wait_is {F G : Int → Int} {T1 T2 M p a b : Int} (hp : 1 ≤ p) (h1 : T1 ≤ M) (h2 : T2 ≤ M) (h20 : 0 ≤ T2) (hM : 0 ≤ M) (hF : Per F T1 p a) (hG : Per G T2 p b) (hGm : Mono G) (hab : a ≤ b) {N w : Int} {xs : Int → Int} (hN : M + p ≤ N) (hx : ∀ u : Int, 0 ≤ u → u < N → SpanU G (F u) (xs u) ∧ 0 ≤ xs u) (hw : w = sup0 (fun u => xs u - u) N.toNat) (hw1 : w ≤ 1000000000) : waitS F G (M + p) = w ∧ w ≠ -1 := by
  have hw0 : 0 ≤ w := by rw [hw]; exact sup0_nn _ _
  have hsp : ∀ u : Int, 0 ≤ u → u < M + p → spanS F G u = xs u := fun u q1 q2 => by
    have := sup0_ge (f := fun u => xs u - u) (n := N.toNat) q1 (by omega)
    exact span_first (hx u q1 (by omega)).1 (hx u q1 (by omega)).2 (by have : xs u - u ≤ w := (by rw [hw]; exact this); omega)
  have hy : waitS F G (M + p) = sup0 (fun t => spanS F G t - t) (M + p).toNat := by
    rw [waitS, if_pos (fun u q1 q2 => by rw [hsp u q1 q2]; have := (hx u q1 (by omega)).2; omega)]
  have hle : sup0 (fun t => spanS F G t - t) (M + p).toNat ≤ w := sup0_le hw0 fun u q1 q2 => by
    have := sup0_ge (f := fun u => xs u - u) (n := N.toNat) q1 (by omega)
    rw [← hw] at this
    rw [hsp u q1 (by omega)]; exact this
  have hge : w ≤ sup0 (fun t => spanS F G t - t) (M + p).toNat := by
    rw [hw]
    refine sup0_le (sup0_nn _ _) fun u q1 q2 => ?_
    obtain ⟨s, r1, r2, r3⟩ := wq (W := sup0 (fun t => spanS F G t - t) (M + p).toNat) hp h1 h2 h20 hM hF hG hGm hab (sup0_nn _ _) (fun t q1 q2 => ⟨xs t, (hx t q1 (by omega)).2, by rcases (hx t q1 (by omega)).1 with z | z; have := (hx t q1 (by omega)).2; omega; exact z.2.1, by have := sup0_ge (f := fun t => spanS F G t - t) (n := (M + p).toNat) q1 (by omega); rw [hsp t q1 q2] at this; omega⟩) (t := u) q1
    rcases (hx u q1 (by omega)).1 with z | z
    · have := (hx u q1 (by omega)).2; omega
    · rcases Int.lt_or_le s (xs u) with y | y
      · have := z.2.2 s r1 y; omega
      · show xs u - u ≤ _; omega
  exact ⟨by rw [hy]; omega, by omega⟩
theorem far_ok {T D C v : Int} {A : Nat → Int} (ok : CvOk T D C A) (hv : v ≤ 4000000000000) : C = 0 ∨ v ≤ cval T D C A 1000000000000000 := by
  obtain ⟨hT0, hT2, hD0, hD6, hC0, hC1, hA, hM, hW⟩ := ok
  by_cases q : C = 0
  · exact Or.inl q
  · right
    rw [cval, if_neg (by omega)]
    have m0 := Int.emod_nonneg (1000000000000000 - T) (show D ≠ 0 by omega)
    have m1 := Int.emod_lt_of_pos (1000000000000000 - T) (show 0 < D by omega)
    have a0 := (hA (T + (1000000000000000 - T) % D) (by omega) (by omega)).1
    have d1 := Int.mul_ediv_add_emod (1000000000000000 - T) D
    have d0 : 0 ≤ (1000000000000000 - T) / D := Int.ediv_nonneg (by omega) (by omega)
    have k1 : D * ((1000000000000000 - T) / D) ≤ 60 * ((1000000000000000 - T) / D) := Int.mul_le_mul_of_nonneg_right hD6 d0
    have k2 : (1000000000000000 - T) / D * 1 ≤ (1000000000000000 - T) / D * C := Int.mul_le_mul_of_nonneg_left (by omega) d0
    omega
theorem off_0 {F G : Int → Int} {n : Int} : offS F G n 0 = sup0 (fun t => F t - G t) n.toNat := by
  unfold offS
  congr 1
  funext u
  rw [Int.zero_add]
set_option maxRecDepth 100000 in
set_option maxHeartbeats 4000000 in
theorem k_X10_first {G : aG} {d : Nat} (hd : 5 ≤ d) {m b1 b2 b3 b4 b5 b6 b7 b8 b9 lo hi : Nat} {S : aS} {nc : Nat} {h : aH} (hM : MRel m b1 b2 b3 b4 b5 b6 b7 b8 b9 lo hi S h) (hS : SOk nc S) {f : Int} {v : Int} : MC G mX10_first d 0 0 [vA m, vI f, vJ v] h (MOut m b1 b2 b3 b4 b5 b6 b7 b8 b9 lo hi h vI (oFirst f v S)) := by
  obtain ⟨⟨o0, o1, o2, o3, o4, o5, o6, o7, o8, o9, oA⟩, hm, ⟨gT, gD, gC, gK, gA, hb1, hb2, hb3, hb4, hb5, hcu⟩, ⟨fr, hb6, hrw⟩, ⟨sm, hb7, hsm⟩, ⟨g8, hb8, htl⟩, ⟨gw, hb9⟩⟩ := id hM
  obtain ⟨⟨s1, s2⟩, s3, ⟨s4, s5⟩, ⟨s6, s7, s8⟩, s9, ⟨s10, s11⟩, s12⟩ := id hS
  refine MC.of (by decide) (Nat.le_of_ble_eq_true rfl) (fun ok okh => ?_)
  show EX G mX10_first d 0 0 _ 0 [(0, vA m), (1, vI f), (2, vJ v)] [] h 0 0
  refine x_aload_n 0 dX10_first_0 rfl rfl ?_
  refine x_iload_n 1 dX10_first_1 rfl rfl ?_
  refine x_callV [vI f] dX10_first_2 kv_X10_109 rfl rfl hm (by omega) (Nat.le_of_ble_eq_true rfl) (by omega) (by omega) (k_X10_isCurve (d := 1) (by omega) hM hS (f := f)) (after_ret ?_)
  refine x_if_eq 14 dX10_first_5 (by decide) (fun c_5 => ?_) (fun c_5 => ?_)
  · have p_5 := b2i_eq c_5
    refine x_aload_n 0 dX10_first_14 rfl rfl ?_
    refine x_iconst dX10_first_15 (okI_c rfl) ?_
    refine x_callV [vI ((-1))] dX10_first_16 kv_X10_58 rfl rfl hm (by omega) (Nat.le_of_ble_eq_true rfl) (by omega) (by omega) (k_X10_refuse (d := 0) (S := S)  (hM)) (fun r1 h1 q1 => ?_)
    obtain ⟨rfl, hCz, hFz⟩ := q1
    exact x_ireturn dX10_first_19 rfl (by omega) (by omega) (outM (by rw [oFirst, cond_t (by first | exact Or.inl p_5 | exact Or.inr (by omega))]; rfl) hCz (MFr.trans MFr.refl hFz))
  · have p_5 := b2i_ne c_5
    refine x_lload_n 2 dX10_first_8 rfl rfl ?_
    refine x_lconst (x := 0) dX10_first_9 (okJ_c rfl) rfl ?_
    refine x_lc_ge 20 dX10_first_10 dX10_first_11 (by decide) (fun c_10 => ?_) (fun c_10 => ?_)
    · have hf := p_5
      have hcf := hcu f hf.1 hf.2
      obtain ⟨hT0f, hT2f, hD0f, hD6f, hC0f, hC1f, hAf, hMf, hWf⟩ := id (s3 f hf.1 hf.2)
      have hlf := hf.2
      have hzf := hf.1
      have hmo : Mono (sF S f) := cval_M (s3 f hf.1 hf.2)
      have hto : sF S f 1000000000 ≤ 1000000000000 + 1000000000 * 1000000000 := cval_top (s3 f hf.1 hf.2) (by omega)
      refine x_lload_n 2 dX10_first_20 rfl rfl ?_
      refine x_aload_n 0 dX10_first_21 rfl rfl ?_
      refine x_iload_n 1 dX10_first_22 rfl rfl ?_
      refine x_ldc2 (n := 1000000000) dX10_first_23 (okJ_c rfl) kc_X10_62 ?_
      refine x_callV [vI f, vJ 1000000000] dX10_first_26 kv_X10_95 rfl rfl hm (by omega) (Nat.le_of_ble_eq_true rfl) (by omega) (by omega) (k_X10_value (d := 0) hM hS (f := f) (t := 1000000000) p_5 (by omega) (by omega)) (after_ret ?_)
      refine x_lc_le 40 dX10_first_29 dX10_first_30 (by decide) (fun c_29 => ?_) (fun c_29 => ?_)
      · refine x_aload_n 0 dX10_first_40 rfl rfl ?_
        refine x_aload_n 0 dX10_first_41 rfl rfl ?_
        refine x_iload_n 1 dX10_first_42 rfl rfl ?_
        refine x_lload_n 2 dX10_first_43 rfl rfl ?_
        refine x_callV [vI f, vJ v] dX10_first_44 kv_X10_144 rfl rfl hm (by omega) (Nat.le_of_ble_eq_true rfl) (by omega) (by omega) (k_X10_spanOf (d := 0) hM hS (f := f) (v := v) p_5 (by omega) (by omega) (Or.inr (by have := hmo.2 1000000000 1000000000000000 (by omega) (by omega); have : sF S f 1000000000 ≤ sF S f 1000000000000000 := this; omega))) (fun r1 h1 q1 => ?_)
        obtain ⟨x, rfl, e2, hsp, hxb⟩ := q1
        rw [e2]
        have hx : 0 ≤ x ∧ x ≤ 1000000000 := by
          rcases hsp with z | z
          · have := z.2 1000000000 (by omega); omega
          · refine ⟨z.1, ?_⟩
            rcases Int.lt_or_le 1000000000 x with y | y
            · have := z.2.2 1000000000 (by omega) y; omega
            · exact y
        have hfx := span_first hsp hx.1 hx.2
        show EX G mX10_first d 0 0 _ _ _ [vJ x, vA m] _ _ _
        refine x_l2i dX10_first_47 (by unfold okI; omega) ?_
        refine x_callV [vI x] dX10_first_48 kv_X10_73 rfl rfl hm (by omega) (Nat.le_of_ble_eq_true rfl) (by omega) (by omega) (k_X10_fine (d := 0) (S := S)  (hM)) (fun r1 h1 q1 => ?_)
        obtain ⟨rfl, hCz, hFz⟩ := q1
        exact x_ireturn dX10_first_51 rfl (by omega) (by omega) (outM (by rw [oFirst, cond_f (fun z => z.elim (fun y => y p_5) (fun y => by omega)), hfx, if_neg (by omega)]; rfl) hCz (MFr.trans MFr.refl hFz))
      · refine x_aload_n 0 dX10_first_33 rfl rfl ?_
        refine x_bipush dX10_first_34 (okI_c rfl) (by decide +kernel) ?_
        refine x_callV [vI ((-5))] dX10_first_36 kv_X10_58 rfl rfl hm (by omega) (Nat.le_of_ble_eq_true rfl) (by omega) (by omega) (k_X10_refuse (d := 0) (S := S)  (hM)) (fun r1 h1 q1 => ?_)
        obtain ⟨rfl, hCz, hFz⟩ := q1
        exact x_ireturn dX10_first_39 rfl (by omega) (by omega) (outM (by rw [oFirst, cond_f (fun z => z.elim (fun y => y p_5) (fun y => by omega)), if_pos (First.eq (Or.inl ⟨rfl, fun t q1 q2 => by have : sF S f t ≤ sF S f 1000000000 := hmo.2 t 1000000000 q1 q2; omega⟩)).symm]; rfl) hCz (MFr.trans MFr.refl hFz))
    · refine x_aload_n 0 dX10_first_14 rfl rfl ?_
      refine x_iconst dX10_first_15 (okI_c rfl) ?_
      refine x_callV [vI ((-1))] dX10_first_16 kv_X10_58 rfl rfl hm (by omega) (Nat.le_of_ble_eq_true rfl) (by omega) (by omega) (k_X10_refuse (d := 0) (S := S)  (hM)) (fun r1 h1 q1 => ?_)
      obtain ⟨rfl, hCz, hFz⟩ := q1
      exact x_ireturn dX10_first_19 rfl (by omega) (by omega) (outM (by rw [oFirst, cond_t (by first | exact Or.inl p_5 | exact Or.inr (by omega))]; rfl) hCz (MFr.trans MFr.refl hFz))
set_option maxRecDepth 100000 in
set_option maxHeartbeats 4000000 in
theorem k_X10_heap {G : aG} {d : Nat} (hd : 5 ≤ d) {m b1 b2 b3 b4 b5 b6 b7 b8 b9 lo hi : Nat} {S : aS} {nc : Nat} {h : aH} (hM : MRel m b1 b2 b3 b4 b5 b6 b7 b8 b9 lo hi S h) (hS : SOk nc S) {f : Int} {g : Int} : MC G mX10_heap d 0 0 [vA m, vI f, vI g] h (MOut m b1 b2 b3 b4 b5 b6 b7 b8 b9 lo hi h vJ (oHeap f g S)) := by
  obtain ⟨⟨o0, o1, o2, o3, o4, o5, o6, o7, o8, o9, oA⟩, hm, ⟨gT, gD, gC, gK, gA, hb1, hb2, hb3, hb4, hb5, hcu⟩, ⟨fr, hb6, hrw⟩, ⟨sm, hb7, hsm⟩, ⟨g8, hb8, htl⟩, ⟨gw, hb9⟩⟩ := id hM
  obtain ⟨⟨s1, s2⟩, s3, ⟨s4, s5⟩, ⟨s6, s7, s8⟩, s9, ⟨s10, s11⟩, s12⟩ := id hS
  refine MC.of (by decide) (Nat.le_of_ble_eq_true rfl) (fun ok okh => ?_)
  show EX G mX10_heap d 0 0 _ 0 [(0, vA m), (1, vI f), (2, vI g)] [] h 0 0
  refine x_aload_n 0 dX10_heap_0 rfl rfl ?_
  refine x_iload_n 1 dX10_heap_1 rfl rfl ?_
  refine x_callV [vI f] dX10_heap_2 kv_X10_109 rfl rfl hm (by omega) (Nat.le_of_ble_eq_true rfl) (by omega) (by omega) (k_X10_isCurve (d := 1) (by omega) hM hS (f := f)) (after_ret ?_)
  refine x_if_eq 16 dX10_heap_5 (by decide) (fun c_5 => ?_) (fun c_5 => ?_)
  · have p_5 := b2i_eq c_5
    refine x_aload_n 0 dX10_heap_16 rfl rfl ?_
    refine x_iconst dX10_heap_17 (okI_c rfl) ?_
    refine x_callV [vI ((-1))] dX10_heap_18 kv_X10_128 rfl rfl hm (by omega) (Nat.le_of_ble_eq_true rfl) (by omega) (by omega) (k_X10_none (d := 0) (S := S)  (hM)) (fun r1 h1 q1 => ?_)
    obtain ⟨rfl, hCz, hFz⟩ := q1
    exact x_lreturn dX10_heap_21 rfl (by omega) (by omega) (outM (by rw [oHeap, cond_t (by first | exact Or.inl p_5 | exact Or.inr p_13)]; rfl) hCz (MFr.trans MFr.refl hFz))
  · have p_5 := b2i_ne c_5
    refine x_aload_n 0 dX10_heap_8 rfl rfl ?_
    refine x_iload_n 2 dX10_heap_9 rfl rfl ?_
    refine x_callV [vI g] dX10_heap_10 kv_X10_109 rfl rfl hm (by omega) (Nat.le_of_ble_eq_true rfl) (by omega) (by omega) (k_X10_isCurve (d := 1) (by omega) hM hS (f := g)) (after_ret ?_)
    refine x_if_ne 22 dX10_heap_13 (by decide) (fun c_13 => ?_) (fun c_13 => ?_)
    · have p_13 := b2i_ne c_13
      have hf := p_5
      have hg := p_13
      have hcf := hcu f hf.1 hf.2
      obtain ⟨hT0f, hT2f, hD0f, hD6f, hC0f, hC1f, hAf, hMf, hWf⟩ := id (s3 f hf.1 hf.2)
      have hlf := hf.2
      have hzf := hf.1
      have hcg := hcu g hg.1 hg.2
      obtain ⟨hT0g, hT2g, hD0g, hD6g, hC0g, hC1g, hAg, hMg, hWg⟩ := id (s3 g hg.1 hg.2)
      have hlg := hg.2
      have hzg := hg.1
      refine x_aload_n 0 dX10_heap_22 rfl rfl ?_
      refine x_iload_n 1 dX10_heap_23 rfl rfl ?_
      refine x_iload_n 2 dX10_heap_24 rfl rfl ?_
      refine x_callV [vI f, vI g] dX10_heap_25 kv_X10_113 rfl rfl hm (by omega) (Nat.le_of_ble_eq_true rfl) (by omega) (by omega) (k_X10_together (d := 1) (by omega) hM hS hf hg) (after_ret ?_)
      refine x_nmI (fun x1 e_x1 => ?_)
      refine x_istore_n (L' := [(3, vI x1), (0, vA m), (1, vI f), (2, vI g)]) dX10_heap_28 rfl (Nat.le_of_ble_eq_true rfl) rfl ?_
      have hxn : ¬ x1 ≤ 60 → sP S f g = -1 := fun q => by rw [sP, lcmS, if_neg (by omega)]
      refine x_iload_n 0 dX10_heap_29 rfl rfl ?_
      refine x_bipush dX10_heap_30 (okI_c rfl) (by decide +kernel) ?_
      refine x_icmp_le 42 dX10_heap_32 (by decide) (fun c_32 => ?_) (fun c_32 => ?_)
      · have hx1 : sP S f g = x1 := by rw [sP, lcmS, if_pos (by omega), e_x1]
        have hp := lcmS_f (a := sD S f) (b := sD S g) hD0f hD0g (by rw [show lcmS (sD S f) (sD S g) = x1 from hx1]; omega)
        rw [show lcmS (sD S f) (sD S g) = x1 from hx1] at hp
        obtain ⟨hp1, hp2, hp3, hp4⟩ := hp
        have hmx : sMx S f g = max (sT S f) (sT S g) + x1 := by rw [sMx, hx1]
        have hPf : Per (sF S f) (sT S f) x1 (sGi S f x1) := cval_Per hD0f (by omega) hp3
        have hPg : Per (sF S g) (sT S g) x1 (sGi S g x1) := cval_Per hD0g (by omega) hp4
        refine x_aload_n 1 dX10_heap_42 rfl rfl ?_
        refine x_iload_n 2 dX10_heap_43 rfl rfl ?_
        refine x_iload_n 0 dX10_heap_44 rfl rfl ?_
        refine x_callV [vI f, vI x1] dX10_heap_45 kv_X10_116 rfl rfl hm (by omega) (Nat.le_of_ble_eq_true rfl) (by omega) (by omega) (k_X10_gainIn (d := 0) hM hS (f := f) (p := x1) hf (by omega) (by omega)) (after_ret ?_)
        refine x_aload_n 1 dX10_heap_48 rfl rfl ?_
        refine x_iload_n 3 dX10_heap_49 rfl rfl ?_
        refine x_iload_n 0 dX10_heap_50 rfl rfl ?_
        refine x_callV [vI g, vI x1] dX10_heap_51 kv_X10_116 rfl rfl hm (by omega) (Nat.le_of_ble_eq_true rfl) (by omega) (by omega) (k_X10_gainIn (d := 0) hM hS (f := g) (p := x1) hg (by omega) (by omega)) (after_ret ?_)
        refine x_lc_le 65 dX10_heap_54 dX10_heap_55 (by decide) (fun c_54 => ?_) (fun c_54 => ?_)
        · refine x_aload_n 1 dX10_heap_65 rfl rfl ?_
          refine x_aload_n 1 dX10_heap_66 rfl rfl ?_
          refine x_iload_n 2 dX10_heap_67 rfl rfl ?_
          refine x_iload_n 3 dX10_heap_68 rfl rfl ?_
          refine x_iconst dX10_heap_69 (okI_c rfl) ?_
          refine x_iload_n 0 dX10_heap_70 rfl rfl ?_
          refine x_callV [vI f, vI g, vI 0, vI x1] dX10_heap_71 kv_X10_103 rfl rfl hm (by omega) (Nat.le_of_ble_eq_true rfl) (by omega) (by omega) (k_X10_most (d := 1) (by omega) hM hS (f := f) (g := g) (t := 0) (p := x1) hf hg (by omega) (by omega) (by omega) (by omega)) (after_ret ?_)
          refine x_callV [vJ ((offS (sF S f) (sF S g) (max (sT S f) (sT S g) + x1) 0))] dX10_heap_74 kv_X10_132 rfl rfl hm (by omega) (Nat.le_of_ble_eq_true rfl) (by omega) (by omega) (k_X10_fineLong (d := 0) (S := S)  (hM)) (fun r1 h1 q1 => ?_)
          obtain ⟨rfl, hCz, hFz⟩ := q1
          exact x_lreturn dX10_heap_77 rfl (by omega) (by omega) (outM (by rw [oHeap, cond_f (fun z => z.elim (fun y => y p_5) (fun y => y p_13)), if_neg (show ¬ sP S f g = -1 by omega), hx1, if_neg (show ¬ sGi S g x1 < sGi S f x1 by omega), hmx, off_0]; rfl) hCz (MFr.trans MFr.refl hFz))
        · refine x_aload_n 1 dX10_heap_58 rfl rfl ?_
          refine x_bipush dX10_heap_59 (okI_c rfl) (by decide +kernel) ?_
          refine x_callV [vI ((-5))] dX10_heap_61 kv_X10_128 rfl rfl hm (by omega) (Nat.le_of_ble_eq_true rfl) (by omega) (by omega) (k_X10_none (d := 0) (S := S)  (hM)) (fun r1 h1 q1 => ?_)
          obtain ⟨rfl, hCz, hFz⟩ := q1
          exact x_lreturn dX10_heap_64 rfl (by omega) (by omega) (outM (by rw [oHeap, cond_f (fun z => z.elim (fun y => y p_5) (fun y => y p_13)), if_neg (show ¬ sP S f g = -1 by omega), hx1, if_pos (show sGi S g x1 < sGi S f x1 by omega)]; rfl) hCz (MFr.trans MFr.refl hFz))
      · refine x_aload_n 1 dX10_heap_35 rfl rfl ?_
        refine x_bipush dX10_heap_36 (okI_c rfl) (by decide +kernel) ?_
        refine x_callV [vI ((-4))] dX10_heap_38 kv_X10_128 rfl rfl hm (by omega) (Nat.le_of_ble_eq_true rfl) (by omega) (by omega) (k_X10_none (d := 0) (S := S)  (hM)) (fun r1 h1 q1 => ?_)
        obtain ⟨rfl, hCz, hFz⟩ := q1
        exact x_lreturn dX10_heap_41 rfl (by omega) (by omega) (outM (by rw [oHeap, cond_f (fun z => z.elim (fun y => y p_5) (fun y => y p_13)), if_pos (hxn (by omega))]; rfl) hCz (MFr.trans MFr.refl hFz))
    · have p_13 := b2i_eq c_13
      refine x_aload_n 0 dX10_heap_16 rfl rfl ?_
      refine x_iconst dX10_heap_17 (okI_c rfl) ?_
      refine x_callV [vI ((-1))] dX10_heap_18 kv_X10_128 rfl rfl hm (by omega) (Nat.le_of_ble_eq_true rfl) (by omega) (by omega) (k_X10_none (d := 0) (S := S)  (hM)) (fun r1 h1 q1 => ?_)
      obtain ⟨rfl, hCz, hFz⟩ := q1
      exact x_lreturn dX10_heap_21 rfl (by omega) (by omega) (outM (by rw [oHeap, cond_t (by first | exact Or.inl p_5 | exact Or.inr p_13)]; rfl) hCz (MFr.trans MFr.refl hFz))
set_option maxRecDepth 100000 in
set_option maxHeartbeats 4000000 in
theorem k_X10_wait {G : aG} {d : Nat} (hd : 5 ≤ d) {m b1 b2 b3 b4 b5 b6 b7 b8 b9 lo hi : Nat} {S : aS} {nc : Nat} {h : aH} (hM : MRel m b1 b2 b3 b4 b5 b6 b7 b8 b9 lo hi S h) (hS : SOk nc S) {f : Int} {g : Int} : MC G mX10_wait d 0 0 [vA m, vI f, vI g] h (MOut m b1 b2 b3 b4 b5 b6 b7 b8 b9 lo hi h vI (oWait f g S)) := by
  obtain ⟨⟨o0, o1, o2, o3, o4, o5, o6, o7, o8, o9, oA⟩, hm, ⟨gT, gD, gC, gK, gA, hb1, hb2, hb3, hb4, hb5, hcu⟩, ⟨fr, hb6, hrw⟩, ⟨sm, hb7, hsm⟩, ⟨g8, hb8, htl⟩, ⟨gw, hb9⟩⟩ := id hM
  obtain ⟨⟨s1, s2⟩, s3, ⟨s4, s5⟩, ⟨s6, s7, s8⟩, s9, ⟨s10, s11⟩, s12⟩ := id hS
  refine MC.of (by decide) (Nat.le_of_ble_eq_true rfl) (fun ok okh => ?_)
  show EX G mX10_wait d 0 0 _ 0 [(0, vA m), (1, vI f), (2, vI g)] [] h 0 0
  refine x_aload_n 0 dX10_wait_0 rfl rfl ?_
  refine x_iload_n 1 dX10_wait_1 rfl rfl ?_
  refine x_callV [vI f] dX10_wait_2 kv_X10_109 rfl rfl hm (by omega) (Nat.le_of_ble_eq_true rfl) (by omega) (by omega) (k_X10_isCurve (d := 1) (by omega) hM hS (f := f)) (after_ret ?_)
  refine x_if_eq 16 dX10_wait_5 (by decide) (fun c_5 => ?_) (fun c_5 => ?_)
  · have p_5 := b2i_eq c_5
    refine x_aload_n 0 dX10_wait_16 rfl rfl ?_
    refine x_iconst dX10_wait_17 (okI_c rfl) ?_
    refine x_callV [vI ((-1))] dX10_wait_18 kv_X10_58 rfl rfl hm (by omega) (Nat.le_of_ble_eq_true rfl) (by omega) (by omega) (k_X10_refuse (d := 0) (S := S)  (hM)) (fun r1 h1 q1 => ?_)
    obtain ⟨rfl, hCz, hFz⟩ := q1
    exact x_ireturn dX10_wait_21 rfl (by omega) (by omega) (outM (by rw [oWait, cond_t (by first | exact Or.inl p_5 | exact Or.inr p_13)]; rfl) hCz (MFr.trans MFr.refl hFz))
  · have p_5 := b2i_ne c_5
    refine x_aload_n 0 dX10_wait_8 rfl rfl ?_
    refine x_iload_n 2 dX10_wait_9 rfl rfl ?_
    refine x_callV [vI g] dX10_wait_10 kv_X10_109 rfl rfl hm (by omega) (Nat.le_of_ble_eq_true rfl) (by omega) (by omega) (k_X10_isCurve (d := 1) (by omega) hM hS (f := g)) (after_ret ?_)
    refine x_if_ne 22 dX10_wait_13 (by decide) (fun c_13 => ?_) (fun c_13 => ?_)
    · have p_13 := b2i_ne c_13
      have hf := p_5
      have hg := p_13
      have hcf := hcu f hf.1 hf.2
      obtain ⟨hT0f, hT2f, hD0f, hD6f, hC0f, hC1f, hAf, hMf, hWf⟩ := id (s3 f hf.1 hf.2)
      have hlf := hf.2
      have hzf := hf.1
      have hcg := hcu g hg.1 hg.2
      obtain ⟨hT0g, hT2g, hD0g, hD6g, hC0g, hC1g, hAg, hMg, hWg⟩ := id (s3 g hg.1 hg.2)
      have hlg := hg.2
      have hzg := hg.1
      refine x_aload_n 0 dX10_wait_22 rfl rfl ?_
      refine x_iload_n 1 dX10_wait_23 rfl rfl ?_
      refine x_iload_n 2 dX10_wait_24 rfl rfl ?_
      refine x_callV [vI f, vI g] dX10_wait_25 kv_X10_113 rfl rfl hm (by omega) (Nat.le_of_ble_eq_true rfl) (by omega) (by omega) (k_X10_together (d := 1) (by omega) hM hS hf hg) (after_ret ?_)
      refine x_nmI (fun x1 e_x1 => ?_)
      refine x_istore_n (L' := [(3, vI x1), (0, vA m), (1, vI f), (2, vI g)]) dX10_wait_28 rfl (Nat.le_of_ble_eq_true rfl) rfl ?_
      have hxn : ¬ x1 ≤ 60 → sP S f g = -1 := fun q => by rw [sP, lcmS, if_neg (by omega)]
      refine x_iload_n 0 dX10_wait_29 rfl rfl ?_
      refine x_bipush dX10_wait_30 (okI_c rfl) (by decide +kernel) ?_
      refine x_icmp_le 42 dX10_wait_32 (by decide) (fun c_32 => ?_) (fun c_32 => ?_)
      · have hx1 : sP S f g = x1 := by rw [sP, lcmS, if_pos (by omega), e_x1]
        have hp := lcmS_f (a := sD S f) (b := sD S g) hD0f hD0g (by rw [show lcmS (sD S f) (sD S g) = x1 from hx1]; omega)
        rw [show lcmS (sD S f) (sD S g) = x1 from hx1] at hp
        obtain ⟨hp1, hp2, hp3, hp4⟩ := hp
        have hmx : sMx S f g = max (sT S f) (sT S g) + x1 := by rw [sMx, hx1]
        have hPf : Per (sF S f) (sT S f) x1 (sGi S f x1) := cval_Per hD0f (by omega) hp3
        have hPg : Per (sF S g) (sT S g) x1 (sGi S g x1) := cval_Per hD0g (by omega) hp4
        refine x_aload_n 1 dX10_wait_42 rfl rfl ?_
        refine x_iload_n 2 dX10_wait_43 rfl rfl ?_
        refine x_iload_n 0 dX10_wait_44 rfl rfl ?_
        refine x_callV [vI f, vI x1] dX10_wait_45 kv_X10_116 rfl rfl hm (by omega) (Nat.le_of_ble_eq_true rfl) (by omega) (by omega) (k_X10_gainIn (d := 0) hM hS (f := f) (p := x1) hf (by omega) (by omega)) (after_ret ?_)
        refine x_aload_n 1 dX10_wait_48 rfl rfl ?_
        refine x_iload_n 3 dX10_wait_49 rfl rfl ?_
        refine x_iload_n 0 dX10_wait_50 rfl rfl ?_
        refine x_callV [vI g, vI x1] dX10_wait_51 kv_X10_116 rfl rfl hm (by omega) (Nat.le_of_ble_eq_true rfl) (by omega) (by omega) (k_X10_gainIn (d := 0) hM hS (f := g) (p := x1) hg (by omega) (by omega)) (after_ret ?_)
        refine x_lc_le 65 dX10_wait_54 dX10_wait_55 (by decide) (fun c_54 => ?_) (fun c_54 => ?_)
        · have hmg : Mono (sF S g) := cval_M (s3 g hg.1 hg.2)
          refine x_lconst (x := 0) dX10_wait_65 (okJ_c rfl) rfl ?_
          refine x_lstore (L' := [(4, vJ 0), (3, vI x1), (0, vA m), (1, vI f), (2, vI g)]) dX10_wait_66 (Nat.le_of_ble_eq_true rfl) rfl ?_
          refine x_iconst dX10_wait_68 (okI_c rfl) ?_
          refine x_istore (L' := [(6, vI 0), (4, vJ 0), (3, vI x1), (0, vA m), (1, vI f), (2, vI g)]) dX10_wait_69 (Nat.le_of_ble_eq_true rfl) rfl ?_
          have loop_71 : ∀ (k_71 : Nat) (w : Int) (t : Int) (xs : Int → Int), (200 + x1 - t).toNat < k_71 → (0 ≤ t) → (t ≤ 200 + x1) → (0 ≤ w) → (w ≤ 2000000000000000) → (∀ u : Int, 0 ≤ u → u < t → SpanU (sF S g) (sF S f u) (xs u) ∧ 0 ≤ xs u) → (w = sup0 (fun u => xs u - u) t.toNat) → EX G mX10_wait d 0 0 (MOut m b1 b2 b3 b4 b5 b6 b7 b8 b9 lo hi h vI (oWait f g S)) 71 [(0, vA m), (1, vI f), (2, vI g), (3, vI x1), (4, vJ w), (6, vI t)] [] h 0 0 := by
            intro k_71
            induction k_71 with
            | zero => intro w t xs hm; exact absurd hm (Nat.not_lt_zero _)
            | succ k_71 ih_71 =>
              intro w t xs hm_71 ht0 ht1 hw0 hw1 hx hw
              refine x_iload 5 dX10_wait_71 rfl ?_
              refine x_sipush dX10_wait_73 (okI_c rfl) (by decide +kernel) ?_
              refine x_iload_n 3 dX10_wait_76 rfl rfl ?_
              refine x_iadd dX10_wait_77 (by unfold okI; omega) ?_
              refine x_icmp_ge 141 dX10_wait_78 (by decide) (fun c_78 => ?_) (fun c_78 => ?_)
              · refine x_lload 4 dX10_wait_141 rfl ?_
                refine x_ldc2 (n := 1000000000) dX10_wait_143 (okJ_c rfl) kc_X10_62 ?_
                refine x_lc_le 159 dX10_wait_146 dX10_wait_147 (by decide) (fun c_146 => ?_) (fun c_146 => ?_)
                · refine x_aload_n 0 dX10_wait_159 rfl rfl ?_
                  refine x_lload 4 dX10_wait_160 rfl ?_
                  refine x_l2i dX10_wait_162 (by unfold okI; omega) ?_
                  refine x_callV [vI w] dX10_wait_163 kv_X10_73 rfl rfl hm (by omega) (Nat.le_of_ble_eq_true rfl) (by omega) (by omega) (k_X10_fine (d := 0) (S := S)  (hM)) (fun r1 h1 q1 => ?_)
                  obtain ⟨rfl, hCz, hFz⟩ := q1
                  exact x_ireturn dX10_wait_166 rfl (by omega) (by omega) (outM (by have z := wait_is hp1 (Int.le_max_left (sT S f) (sT S g)) (Int.le_max_right (sT S f) (sT S g)) hT0g (by omega) hPf hPg hmg c_54 (N := t) (w := w) (xs := xs) (by omega) hx hw (by omega); rw [oWait, cond_f (fun z => z.elim (fun y => y p_5) (fun y => y p_13)), if_neg (show ¬ sP S f g = -1 by omega), hx1, if_neg (show ¬ sGi S g x1 < sGi S f x1 by omega), hmx, z.1, if_neg z.2]; rfl) hCz (MFr.trans MFr.refl hFz))
                · refine x_aload_n 0 dX10_wait_150 rfl rfl ?_
                  refine x_bipush dX10_wait_151 (okI_c rfl) (by decide +kernel) ?_
                  refine x_callV [vI ((-5))] dX10_wait_153 kv_X10_58 rfl rfl hm (by omega) (Nat.le_of_ble_eq_true rfl) (by omega) (by omega) (k_X10_refuse (d := 0) (S := S)  (hM)) (fun r1 h1 q1 => ?_)
                  obtain ⟨rfl, hCz, hFz⟩ := q1
                  refine x_goto 166 dX10_wait_156 (by decide) ?_
                  exact x_ireturn dX10_wait_166 rfl (by omega) (by omega) (outM (by obtain ⟨u, q1, q2, q3⟩ := (sup0_at (fun u => xs u - u) t.toNat).resolve_left (by omega); have q3 : sup0 (fun u => xs u - u) t.toNat = xs u - u := q3; rw [oWait, cond_f (fun z => z.elim (fun y => y p_5) (fun y => y p_13)), if_neg (show ¬ sP S f g = -1 by omega), hx1, if_neg (show ¬ sGi S g x1 < sGi S f x1 by omega), hmx, if_pos (wait_no hp1 (Int.le_max_left (sT S f) (sT S g)) (Int.le_max_right (sT S f) (sT S g)) hT0g (by omega) hPf hPg hmg c_54 q1 (hx u q1 (by omega)).1 (Or.inr (by omega)))]; rfl) hCz (MFr.trans MFr.refl hFz))
              · refine x_aload_n 0 dX10_wait_81 rfl rfl ?_
                refine x_iload_n 2 dX10_wait_82 rfl rfl ?_
                refine x_aload_n 0 dX10_wait_83 rfl rfl ?_
                refine x_iload_n 1 dX10_wait_84 rfl rfl ?_
                refine x_iload 5 dX10_wait_85 rfl ?_
                refine x_i2l dX10_wait_87 ?_
                refine x_callV [vI f, vJ t] dX10_wait_88 kv_X10_95 rfl rfl hm (by omega) (Nat.le_of_ble_eq_true rfl) (by omega) (by omega) (k_X10_value (d := 0) hM hS (f := f) (t := t) hf (by omega) (by omega)) (after_ret ?_)
                have hvb : 0 ≤ sF S f t ∧ sF S f t ≤ 4000000000000 := cval_bnd (n := 3000) (s3 f hf.1 hf.2) (Int.le_refl _) t (by omega) (by omega)
                refine x_callV [vI g, vJ ((sF S f (t)))] dX10_wait_91 kv_X10_144 rfl rfl hm (by omega) (Nat.le_of_ble_eq_true rfl) (by omega) (by omega) (k_X10_spanOf (d := 0) hM hS (f := g) (v := sF S f t) hg (by omega) (by omega) (far_ok (s3 g hg.1 hg.2) (by omega))) (fun r1 h1 q1 => ?_)
                obtain ⟨x, rfl, e2, hsp, hxb⟩ := q1
                rw [e2]
                show EX G mX10_wait d 0 0 _ _ _ [vJ x] _ _ _
                refine x_lstore (L' := [(7, vJ x), (0, vA m), (1, vI f), (2, vI g), (3, vI x1), (4, vJ w), (6, vI t)]) dX10_wait_94 (Nat.le_of_ble_eq_true rfl) rfl ?_
                refine x_lload 0 dX10_wait_96 rfl ?_
                refine x_lconst (x := 0) dX10_wait_98 (okJ_c rfl) rfl ?_
                refine x_lc_ge 110 dX10_wait_99 dX10_wait_100 (by decide) (fun c_99 => ?_) (fun c_99 => ?_)
                · refine x_lload 0 dX10_wait_110 rfl ?_
                  refine x_iload 6 dX10_wait_112 rfl ?_
                  refine x_i2l dX10_wait_114 ?_
                  refine x_lsub dX10_wait_115 (by unfold okJ; omega) ?_
                  refine x_lload 5 dX10_wait_116 rfl ?_
                  refine x_lc_le 131 dX10_wait_118 dX10_wait_119 (by decide) (fun c_118 => ?_) (fun c_118 => ?_)
                  · refine x_lload 5 dX10_wait_131 rfl ?_
                    refine x_lstore (L' := [(4, vJ w), (7, vJ x), (0, vA m), (1, vI f), (2, vI g), (3, vI x1), (6, vI t)]) dX10_wait_133 (Nat.le_of_ble_eq_true rfl) rfl ?_
                    refine x_iinc 6 (L' := [(6, vI (t + 1)), (4, vJ w), (7, vJ x), (0, vA m), (1, vI f), (2, vI g), (3, vI x1)]) dX10_wait_135 rfl (by unfold okI; omega) (Nat.le_of_ble_eq_true rfl) rfl ?_
                    refine x_goto 71 dX10_wait_138 (by decide) ?_
                    have hsx : sup0 (fun u => (fun u : Int => if u = t then x else xs u) u - u) (t + 1).toNat = max w (x - t) := by
                      rw [sup0_s ht0, hw, sup0_congr (f := fun u => (fun u : Int => if u = t then x else xs u) u - u) (g := fun u => xs u - u) (fun u q1 q2 => by show (if u = t then x else xs u) - u = xs u - u; rw [if_neg (by omega)])]
                      show max _ ((if t = t then x else xs t) - t) = _
                      rw [if_pos rfl]
                    exact EX.pick [3, 4, 5, 6, 1, 0] rfl (ih_71 w (t + 1) (fun u : Int => if u = t then x else xs u) (by omega) (by omega) (by omega) (by omega) (by omega) (fun u q1 q2 => by show SpanU (sF S g) (sF S f u) (if u = t then x else xs u) ∧ 0 ≤ (if u = t then x else xs u); by_cases q : u = t; subst q; rw [if_pos rfl]; exact ⟨hsp, by omega⟩; rw [if_neg q]; exact hx u q1 (by omega)) (by rw [hsx]; omega))
                  · refine x_lload 0 dX10_wait_122 rfl ?_
                    refine x_iload 6 dX10_wait_124 rfl ?_
                    refine x_i2l dX10_wait_126 ?_
                    refine x_lsub dX10_wait_127 (by unfold okJ; omega) ?_
                    refine x_goto 133 dX10_wait_128 (by decide) ?_
                    refine x_nmJ (fun x2 e_x2 => ?_)
                    refine x_lstore (L' := [(4, vJ x2), (7, vJ x), (0, vA m), (1, vI f), (2, vI g), (3, vI x1), (6, vI t)]) dX10_wait_133 (Nat.le_of_ble_eq_true rfl) rfl ?_
                    refine x_iinc 6 (L' := [(6, vI (t + 1)), (4, vJ x2), (7, vJ x), (0, vA m), (1, vI f), (2, vI g), (3, vI x1)]) dX10_wait_135 rfl (by unfold okI; omega) (Nat.le_of_ble_eq_true rfl) rfl ?_
                    refine x_goto 71 dX10_wait_138 (by decide) ?_
                    have hsx : sup0 (fun u => (fun u : Int => if u = t then x else xs u) u - u) (t + 1).toNat = max w (x - t) := by
                      rw [sup0_s ht0, hw, sup0_congr (f := fun u => (fun u : Int => if u = t then x else xs u) u - u) (g := fun u => xs u - u) (fun u q1 q2 => by show (if u = t then x else xs u) - u = xs u - u; rw [if_neg (by omega)])]
                      show max _ ((if t = t then x else xs t) - t) = _
                      rw [if_pos rfl]
                    exact EX.pick [3, 4, 5, 6, 1, 0] rfl (ih_71 x2 (t + 1) (fun u : Int => if u = t then x else xs u) (by omega) (by omega) (by omega) (by omega) (by omega) (fun u q1 q2 => by show SpanU (sF S g) (sF S f u) (if u = t then x else xs u) ∧ 0 ≤ (if u = t then x else xs u); by_cases q : u = t; subst q; rw [if_pos rfl]; exact ⟨hsp, by omega⟩; rw [if_neg q]; exact hx u q1 (by omega)) (by rw [hsx]; omega))
                · refine x_aload_n 1 dX10_wait_103 rfl rfl ?_
                  refine x_bipush dX10_wait_104 (okI_c rfl) (by decide +kernel) ?_
                  refine x_callV [vI ((-5))] dX10_wait_106 kv_X10_58 rfl rfl hm (by omega) (Nat.le_of_ble_eq_true rfl) (by omega) (by omega) (k_X10_refuse (d := 0) (S := S)  (hM)) (fun r1 h1 q1 => ?_)
                  obtain ⟨rfl, hCz, hFz⟩ := q1
                  exact x_ireturn dX10_wait_109 rfl (by omega) (by omega) (outM (by rw [oWait, cond_f (fun z => z.elim (fun y => y p_5) (fun y => y p_13)), if_neg (show ¬ sP S f g = -1 by omega), hx1, if_neg (show ¬ sGi S g x1 < sGi S f x1 by omega), hmx, if_pos (wait_no hp1 (Int.le_max_left (sT S f) (sT S g)) (Int.le_max_right (sT S f) (sT S g)) hT0g (by omega) hPf hPg hmg c_54 ht0 hsp (Or.inl (by rcases hsp with z | z; exact z.1; have := z.1; omega)))]; rfl) hCz (MFr.trans MFr.refl hFz))
          exact EX.pick [3, 4, 5, 2, 1, 0] rfl (loop_71 ((200 + x1 - (0 : Int)).toNat + 1) 0 0 (fun _ => 0) (Nat.lt_succ_self _) (by omega) (by omega) (by omega) (by omega) (fun u q1 q2 => by omega) rfl)
        · refine x_aload_n 1 dX10_wait_58 rfl rfl ?_
          refine x_bipush dX10_wait_59 (okI_c rfl) (by decide +kernel) ?_
          refine x_callV [vI ((-5))] dX10_wait_61 kv_X10_58 rfl rfl hm (by omega) (Nat.le_of_ble_eq_true rfl) (by omega) (by omega) (k_X10_refuse (d := 0) (S := S)  (hM)) (fun r1 h1 q1 => ?_)
          obtain ⟨rfl, hCz, hFz⟩ := q1
          exact x_ireturn dX10_wait_64 rfl (by omega) (by omega) (outM (by rw [oWait, cond_f (fun z => z.elim (fun y => y p_5) (fun y => y p_13)), if_neg (show ¬ sP S f g = -1 by omega), hx1, if_pos (show sGi S g x1 < sGi S f x1 by omega)]; rfl) hCz (MFr.trans MFr.refl hFz))
      · refine x_aload_n 1 dX10_wait_35 rfl rfl ?_
        refine x_bipush dX10_wait_36 (okI_c rfl) (by decide +kernel) ?_
        refine x_callV [vI ((-4))] dX10_wait_38 kv_X10_58 rfl rfl hm (by omega) (Nat.le_of_ble_eq_true rfl) (by omega) (by omega) (k_X10_refuse (d := 0) (S := S)  (hM)) (fun r1 h1 q1 => ?_)
        obtain ⟨rfl, hCz, hFz⟩ := q1
        exact x_ireturn dX10_wait_41 rfl (by omega) (by omega) (outM (by rw [oWait, cond_f (fun z => z.elim (fun y => y p_5) (fun y => y p_13)), if_pos (hxn (by omega))]; rfl) hCz (MFr.trans MFr.refl hFz))
    · have p_13 := b2i_eq c_13
      refine x_aload_n 0 dX10_wait_16 rfl rfl ?_
      refine x_iconst dX10_wait_17 (okI_c rfl) ?_
      refine x_callV [vI ((-1))] dX10_wait_18 kv_X10_58 rfl rfl hm (by omega) (Nat.le_of_ble_eq_true rfl) (by omega) (by omega) (k_X10_refuse (d := 0) (S := S)  (hM)) (fun r1 h1 q1 => ?_)
      obtain ⟨rfl, hCz, hFz⟩ := q1
      exact x_ireturn dX10_wait_21 rfl (by omega) (by omega) (outM (by rw [oWait, cond_t (by first | exact Or.inl p_5 | exact Or.inr p_13)]; rfl) hCz (MFr.trans MFr.refl hFz))

