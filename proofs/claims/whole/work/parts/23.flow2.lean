/-! ===== FlowCurves: what is told of curves and of a run ===== -/
theorem lcmS_f {a b : Int} (ha : 1 ≤ a) (hb : 1 ≤ b) (h : lcmS a b ≠ -1) : 1 ≤ lcmS a b ∧ lcmS a b ≤ 60 ∧ lcmS a b % a = 0 ∧ lcmS a b % b = 0 := by
  unfold lcmS at h ⊢
  by_cases q : ((Int.lcm a b : Nat) : Int) ≤ 60
  · rw [if_pos q] at h ⊢
    have hpos : 0 < Int.lcm a b := Nat.pos_of_ne_zero (Int.lcm_ne_zero (by omega) (by omega))
    exact ⟨by omega, q, Int.emod_eq_zero_of_dvd (Int.dvd_lcm_left a b), Int.emod_eq_zero_of_dvd (Int.dvd_lcm_right a b)⟩
  · rw [if_neg q] at h; exact absurd rfl h
theorem sup0_z {f : Int → Int} {n : Nat} : sup0 f n = 0 ↔ ∀ t : Int, 0 ≤ t → t < n → f t ≤ 0 := by
  constructor
  · intro h t h0 h1; have := sup0_ge (f := f) h0 h1; omega
  · intro h; have := sup0_le (Int.le_refl 0) h; have := sup0_nn f n; omega
theorem gcd_nn (a b : Int) (hb : 1 ≤ b) : 1 ≤ ((Int.gcd a b : Nat) : Int) := by
  have : 0 < Int.gcd a b := Int.gcd_pos_of_ne_zero_right _ (by omega)
  omega
section XK
variable {G : aG} {X : aM} {d mc ms : Nat} {Q : Option aV → aH → Prop} {pc : Nat} {L : List (Nat × aV)} {st : List aV} {h : aH} {kc ks : Nat}
theorem x_kind9 {c ci a : Nat} {T D C ld : Int} {am : Nat → Int} (hd : decode X.2.1 pc = .ok (.invokevirtual 135, 3)) (hX : X.1.cls = RX9) (hcv : CvAt h c ci a T D C am ld) (hd1 : 1 ≤ d) (hcat : ((st.map cv).map fun v => v.category).sum ≤ 8) (hc : kc ≤ mc) (hs : ks ≤ ms) (k : EX G X d mc ms Q (pc + 3) L (vI (kindN ci) :: st) h kc ks) : EX G X d mc ms Q pc L (vA c :: st) h kc ks := by
  have hci := hcv.2.2
  simp only [List.mem_cons, List.not_mem_nil, or_false] at hci
  rcases hci with rfl | rfl | rfl | rfl | rfl
  · exact x_callU [] hd (by rw [hX]; exact ku_X9_135_0) rfl rfl hcv.1 (d' := 0) hd1 hcat (by omega) (by omega) k_X0_kind (after_ret k)
  · exact x_callU [] hd (by rw [hX]; exact ku_X9_135_1) rfl rfl hcv.1 (d' := 0) hd1 hcat (by omega) (by omega) k_X1_kind (after_ret k)
  · exact x_callU [] hd (by rw [hX]; exact ku_X9_135_2) rfl rfl hcv.1 (d' := 0) hd1 hcat (by omega) (by omega) k_X2_kind (after_ret k)
  · exact x_callU [] hd (by rw [hX]; exact ku_X9_135_4) rfl rfl hcv.1 (d' := 0) hd1 hcat (by omega) (by omega) k_X5_kind (after_ret k)
  · exact x_callU [] hd (by rw [hX]; exact ku_X9_135_6) rfl rfl hcv.1 (d' := 0) hd1 hcat (by omega) (by omega) k_X7_kind (after_ret k)
end XK
set_option maxRecDepth 100000 in
set_option maxHeartbeats 4000000 in
theorem k_X9_unlike {G : aG} {d : Nat} (hd : 5 ≤ d) {x ac ar rr cr ta tm mk md on ot lo hi : Nat} {S : aS} {nc : Nat} {h : aH} (hC : CRel x ac ar rr cr ta tm mk md on ot lo hi S h) (hS : SOk nc S) {f : Int} {g : Int} : MC G mX9_unlike d 0 0 [vA x, vI f, vI g] h (COut x ac ar rr cr ta tm mk md on ot lo hi h vI (oUnlike f g S)) := by
  obtain ⟨⟨o1, o2, o3, o4, o5, o6, o7, o8, o9, oA, oB, oC, oD⟩, hx, ⟨fc, hac, hcs⟩, ⟨fr, har, hrw⟩, ⟨cm, hrr, hcr, hcm⟩, ⟨gt, hta, htm, htl⟩, hmk, ⟨gm, hmd⟩, ⟨g1, hon⟩, ⟨g2, hot⟩⟩ := id hC
  obtain ⟨⟨s1, s2⟩, s3, ⟨s4, s5⟩, ⟨s6, s7, s8⟩, s9, ⟨s10, s11⟩, s12⟩ := id hS
  refine MC.of (by decide) (Nat.le_of_ble_eq_true rfl) (fun ok okh => ?_)
  show EX G mX9_unlike d 0 0 _ 0 [(0, vA x), (1, vI f), (2, vI g)] [] h 0 0
  refine x_aload_n 0 dX9_unlike_0 rfl rfl ?_
  refine x_iload_n 1 dX9_unlike_1 rfl rfl ?_
  refine x_callV [vI f] dX9_unlike_2 kv_X9_90 rfl rfl hx (by omega) (Nat.le_of_ble_eq_true rfl) (by omega) (by omega) (k_X9_curveNumbered (d := 0) hC hS (f := f)) (fun r1 h1 q1 => ?_)
  rcases q1 with ⟨e2, hn1, rfl⟩ | ⟨e2, hf1, c1, ci1, a1, am1, ld1, rfl, hcx1⟩
  · rw [e2]
    show EX G mX9_unlike d 0 0 _ _ _ [vN] _ _ _
    refine x_astorer_n (L' := [(3, vN), (0, vA x), (1, vI f), (2, vI g)]) dX9_unlike_5 rfl (Nat.le_of_ble_eq_true rfl) rfl ?_
    refine x_aload_n 1 dX9_unlike_6 rfl rfl ?_
    refine x_iload_n 3 dX9_unlike_7 rfl rfl ?_
    refine x_callV [vI g] dX9_unlike_8 kv_X9_90 rfl rfl hx (by omega) (Nat.le_of_ble_eq_true rfl) (by omega) (by omega) (k_X9_curveNumbered (d := 0) hC hS (f := g)) (fun r1 h1 q1 => ?_)
    rcases q1 with ⟨e2, hn2, rfl⟩ | ⟨e2, hf2, c2, ci2, a2, am2, ld2, rfl, hcx2⟩
    · rw [e2]
      show EX G mX9_unlike d 0 0 _ _ _ [vN] _ _ _
      refine x_astorer (L' := [(4, vN), (3, vN), (0, vA x), (1, vI f), (2, vI g)]) dX9_unlike_11 (Nat.le_of_ble_eq_true rfl) rfl ?_
      refine x_aloadr_n 1 dX9_unlike_13 rfl rfl ?_
      refine x_ifnull (r := none) 22 dX9_unlike_14 (by decide) (fun _ => ?_) (fun z => nomatch z)
      refine x_aload_n 2 dX9_unlike_22 rfl rfl ?_
      refine x_iconst dX9_unlike_23 (okI_c rfl) ?_
      refine x_put 9 dX9_unlike_24 pu_X9_54 hx rfl rfl (Nat.le_of_ble_eq_true rfl) ?_
      refine x_bipush dX9_unlike_27 (okI_c rfl) (by decide +kernel) ?_
      exact x_ireturn dX9_unlike_29 rfl (by decide) (by decide) (outC (S2 := sLa (-1) S) (by rw [oUnlike, cond_t (by first | exact Or.inl hn1 | exact Or.inr hn2)]; rfl) ⟨⟨o1, o2, o3, o4, o5, o6, o7, o8, o9, oA, oB, oC, (by rw [hset_ne _ _ (show hi - 1 ≠ x by omega)]; exact oD)⟩, (hset_eq _ _ _), ⟨fc, ((hset_ne _ _ (by omega)).trans hac), (fun i q1 q2 => (hcs i q1 q2).keep (by omega))⟩, ⟨fr, ((hset_ne _ _ (by omega)).trans har), hrw⟩, ⟨cm, ((hset_ne _ _ (by omega)).trans hrr), ((hset_ne _ _ (by omega)).trans hcr), hcm⟩, ⟨gt, ((hset_ne _ _ (by omega)).trans hta), ((hset_ne _ _ (by omega)).trans htm), htl⟩, ((hset_ne _ _ (by omega)).trans hmk), ⟨_, ((hset_ne _ _ (by omega)).trans hmd)⟩, ⟨_, ((hset_ne _ _ (by omega)).trans hon)⟩, ⟨_, ((hset_ne _ _ (by omega)).trans hot)⟩⟩ (Fr.set Fr.refl (by omega)))
    · rw [e2]
      obtain ⟨hcv2, hki2, hok2, hF2, hK2, hL2, hi2, ha2⟩ := id hcx2
      show EX G mX9_unlike d 0 0 _ _ _ [vA c2] _ _ _
      refine x_astore (L' := [(4, vA c2), (3, vN), (0, vA x), (1, vI f), (2, vI g)]) dX9_unlike_11 (Nat.le_of_ble_eq_true rfl) rfl ?_
      refine x_aloadr_n 1 dX9_unlike_13 rfl rfl ?_
      refine x_ifnull (r := none) 22 dX9_unlike_14 (by decide) (fun _ => ?_) (fun z => nomatch z)
      refine x_aload_n 2 dX9_unlike_22 rfl rfl ?_
      refine x_iconst dX9_unlike_23 (okI_c rfl) ?_
      refine x_put 9 dX9_unlike_24 pu_X9_54 hx rfl rfl (Nat.le_of_ble_eq_true rfl) ?_
      refine x_bipush dX9_unlike_27 (okI_c rfl) (by decide +kernel) ?_
      exact x_ireturn dX9_unlike_29 rfl (by decide) (by decide) (outC (S2 := sLa (-1) S) (by rw [oUnlike, cond_t (by first | exact Or.inl hn1 | exact Or.inr hn2)]; rfl) ⟨⟨o1, o2, o3, o4, o5, o6, o7, o8, o9, oA, oB, oC, (by rw [hset_ne _ _ (show hi - 1 ≠ x by omega)]; exact oD)⟩, (hset_eq _ _ _), ⟨fc, ((hset_ne _ _ (by omega)).trans hac), (fun i q1 q2 => (hcs i q1 q2).keep (by omega))⟩, ⟨fr, ((hset_ne _ _ (by omega)).trans har), hrw⟩, ⟨cm, ((hset_ne _ _ (by omega)).trans hrr), ((hset_ne _ _ (by omega)).trans hcr), hcm⟩, ⟨gt, ((hset_ne _ _ (by omega)).trans hta), ((hset_ne _ _ (by omega)).trans htm), htl⟩, ((hset_ne _ _ (by omega)).trans hmk), ⟨_, ((hset_ne _ _ (by omega)).trans hmd)⟩, ⟨_, ((hset_ne _ _ (by omega)).trans hon)⟩, ⟨_, ((hset_ne _ _ (by omega)).trans hot)⟩⟩ (Fr.set Fr.refl (by omega)))
  · rw [e2]
    obtain ⟨hcv1, hki1, hok1, hF1, hK1, hL1, hi1, ha1⟩ := id hcx1
    show EX G mX9_unlike d 0 0 _ _ _ [vA c1] _ _ _
    refine x_astore_n (L' := [(3, vA c1), (0, vA x), (1, vI f), (2, vI g)]) dX9_unlike_5 rfl (Nat.le_of_ble_eq_true rfl) rfl ?_
    refine x_aload_n 1 dX9_unlike_6 rfl rfl ?_
    refine x_iload_n 3 dX9_unlike_7 rfl rfl ?_
    refine x_callV [vI g] dX9_unlike_8 kv_X9_90 rfl rfl hx (by omega) (Nat.le_of_ble_eq_true rfl) (by omega) (by omega) (k_X9_curveNumbered (d := 0) hC hS (f := g)) (fun r1 h1 q1 => ?_)
    rcases q1 with ⟨e2, hn2, rfl⟩ | ⟨e2, hf2, c2, ci2, a2, am2, ld2, rfl, hcx2⟩
    · rw [e2]
      show EX G mX9_unlike d 0 0 _ _ _ [vN] _ _ _
      refine x_astorer (L' := [(4, vN), (3, vA c1), (0, vA x), (1, vI f), (2, vI g)]) dX9_unlike_11 (Nat.le_of_ble_eq_true rfl) rfl ?_
      refine x_aload_n 1 dX9_unlike_13 rfl rfl ?_
      refine x_ifnull (r := some c1) 22 dX9_unlike_14 (by decide) (fun z => nomatch z) (fun _ => ?_)
      refine x_aloadr 0 dX9_unlike_17 rfl ?_
      refine x_ifnonnull (r := none) 30 dX9_unlike_19 (by decide) (fun z => nomatch z) (fun _ => ?_)
      refine x_aload_n 2 dX9_unlike_22 rfl rfl ?_
      refine x_iconst dX9_unlike_23 (okI_c rfl) ?_
      refine x_put 9 dX9_unlike_24 pu_X9_54 hx rfl rfl (Nat.le_of_ble_eq_true rfl) ?_
      refine x_bipush dX9_unlike_27 (okI_c rfl) (by decide +kernel) ?_
      exact x_ireturn dX9_unlike_29 rfl (by decide) (by decide) (outC (S2 := sLa (-1) S) (by rw [oUnlike, cond_t (by first | exact Or.inl hn1 | exact Or.inr hn2)]; rfl) ⟨⟨o1, o2, o3, o4, o5, o6, o7, o8, o9, oA, oB, oC, (by rw [hset_ne _ _ (show hi - 1 ≠ x by omega)]; exact oD)⟩, (hset_eq _ _ _), ⟨fc, ((hset_ne _ _ (by omega)).trans hac), (fun i q1 q2 => (hcs i q1 q2).keep (by omega))⟩, ⟨fr, ((hset_ne _ _ (by omega)).trans har), hrw⟩, ⟨cm, ((hset_ne _ _ (by omega)).trans hrr), ((hset_ne _ _ (by omega)).trans hcr), hcm⟩, ⟨gt, ((hset_ne _ _ (by omega)).trans hta), ((hset_ne _ _ (by omega)).trans htm), htl⟩, ((hset_ne _ _ (by omega)).trans hmk), ⟨_, ((hset_ne _ _ (by omega)).trans hmd)⟩, ⟨_, ((hset_ne _ _ (by omega)).trans hon)⟩, ⟨_, ((hset_ne _ _ (by omega)).trans hot)⟩⟩ (Fr.set Fr.refl (by omega)))
    · rw [e2]
      obtain ⟨hcv2, hki2, hok2, hF2, hK2, hL2, hi2, ha2⟩ := id hcx2
      show EX G mX9_unlike d 0 0 _ _ _ [vA c2] _ _ _
      refine x_astore (L' := [(4, vA c2), (3, vA c1), (0, vA x), (1, vI f), (2, vI g)]) dX9_unlike_11 (Nat.le_of_ble_eq_true rfl) rfl ?_
      refine x_aload_n 1 dX9_unlike_13 rfl rfl ?_
      refine x_ifnull (r := some c1) 22 dX9_unlike_14 (by decide) (fun z => nomatch z) (fun _ => ?_)
      refine x_aload 0 dX9_unlike_17 rfl ?_
      refine x_ifnonnull (r := some c2) 30 dX9_unlike_19 (by decide) (fun _ => ?_) (fun z => nomatch z)
      refine x_aload_n 1 dX9_unlike_30 rfl rfl ?_
      refine x_aload 0 dX9_unlike_31 rfl ?_
      refine x_callS [vA c1, vA c2] dX9_unlike_33 ks_X9_93 rfl rfl (by omega) (Nat.le_of_ble_eq_true rfl) (by omega) (by omega) (k_X4_commonStep (d := 0) hcv1 hok1 hcv2 hok2) (after_ret ?_)
      refine x_nmI (fun x1 e_x1 => ?_)
      refine x_istore (L' := [(5, vI x1), (4, vA c2), (3, vA c1), (0, vA x), (1, vI f), (2, vI g)]) dX9_unlike_36 (Nat.le_of_ble_eq_true rfl) rfl ?_
      refine x_iload 0 dX9_unlike_38 rfl ?_
      refine x_iconst dX9_unlike_40 (okI_c rfl) ?_
      refine x_icmp_ne 53 dX9_unlike_41 (by decide) (fun c_41 => ?_) (fun c_41 => ?_)
      · have hx1 : sP S f g = x1 := e_x1.symm
        have hp := lcmS_f (a := sD S f) (b := sD S g) hok1.2.2.1 hok2.2.2.1 (by rw [← e_x1]; omega)
        rw [← e_x1] at hp
        have hmx : sMx S f g = max (sT S f) (sT S g) + x1 := by rw [sMx, hx1]
        refine x_aload_n 3 dX9_unlike_53 rfl rfl ?_
        refine x_aload_n 2 dX9_unlike_54 rfl rfl ?_
        refine x_aload 1 dX9_unlike_55 rfl ?_
        refine x_iload 0 dX9_unlike_57 rfl ?_
        refine x_callS [vA c1, vA c2, vI x1] dX9_unlike_59 ks_X9_146 rfl rfl (by omega) (Nat.le_of_ble_eq_true rfl) (by omega) (by omega) (k_X4_firstUnlike (d := 2) (by omega) hcv1 hok1 hcv2 hok2 (p := x1) (by omega) (by omega)) (after_ret ?_)
        refine x_callV [vI ((unlikeS (cval (sT S f) (sD S f) (sC S f) am1) (cval (sT S g) (sD S g) (sC S g) am2) (max (sT S f) (sT S g) + x1)))] dX9_unlike_62 kv_X9_63 rfl rfl hx (by omega) (Nat.le_of_ble_eq_true rfl) (by omega) (by omega) (k_X9_granted (d := 0) (S := S)  (hC)) (fun r1 h1 q1 => ?_)
        obtain ⟨rfl, hCz, hFz⟩ := q1
        exact x_ireturn dX9_unlike_65 rfl (by omega) (by omega) (outC (by rw [oUnlike, cond_f (fun z => z.elim (fun y => y hf1) (fun y => y hf2)), if_neg (by omega), ← hF1, ← hF2, hmx]; rfl) hCz (Fr.trans Fr.refl hFz))
      · refine x_aload_n 3 dX9_unlike_44 rfl rfl ?_
        refine x_bipush dX9_unlike_45 (okI_c rfl) (by decide +kernel) ?_
        refine x_put 9 dX9_unlike_47 pu_X9_54 hx rfl rfl (Nat.le_of_ble_eq_true rfl) ?_
        refine x_bipush dX9_unlike_50 (okI_c rfl) (by decide +kernel) ?_
        exact x_ireturn dX9_unlike_52 rfl (by decide) (by decide) (outC (S2 := sLa (-4) S) (by rw [oUnlike, cond_f (fun z => z.elim (fun y => y hf1) (fun y => y hf2)), if_pos (by have : sP S f g = x1 := e_x1.symm; omega)]; rfl) ⟨⟨o1, o2, o3, o4, o5, o6, o7, o8, o9, oA, oB, oC, (by rw [hset_ne _ _ (show hi - 1 ≠ x by omega)]; exact oD)⟩, (hset_eq _ _ _), ⟨fc, ((hset_ne _ _ (by omega)).trans hac), (fun i q1 q2 => (hcs i q1 q2).keep (by omega))⟩, ⟨fr, ((hset_ne _ _ (by omega)).trans har), hrw⟩, ⟨cm, ((hset_ne _ _ (by omega)).trans hrr), ((hset_ne _ _ (by omega)).trans hcr), hcm⟩, ⟨gt, ((hset_ne _ _ (by omega)).trans hta), ((hset_ne _ _ (by omega)).trans htm), htl⟩, ((hset_ne _ _ (by omega)).trans hmk), ⟨_, ((hset_ne _ _ (by omega)).trans hmd)⟩, ⟨_, ((hset_ne _ _ (by omega)).trans hon)⟩, ⟨_, ((hset_ne _ _ (by omega)).trans hot)⟩⟩ (Fr.set Fr.refl (by omega)))
set_option maxRecDepth 100000 in
set_option maxHeartbeats 4000000 in
theorem k_X9_below {G : aG} {d : Nat} (hd : 5 ≤ d) {x ac ar rr cr ta tm mk md on ot lo hi : Nat} {S : aS} {nc : Nat} {h : aH} (hC : CRel x ac ar rr cr ta tm mk md on ot lo hi S h) (hS : SOk nc S) {f : Int} {g : Int} : MC G mX9_below d 0 0 [vA x, vI f, vI g] h (COut x ac ar rr cr ta tm mk md on ot lo hi h vI (oBelow f g S)) := by
  obtain ⟨⟨o1, o2, o3, o4, o5, o6, o7, o8, o9, oA, oB, oC, oD⟩, hx, ⟨fc, hac, hcs⟩, ⟨fr, har, hrw⟩, ⟨cm, hrr, hcr, hcm⟩, ⟨gt, hta, htm, htl⟩, hmk, ⟨gm, hmd⟩, ⟨g1, hon⟩, ⟨g2, hot⟩⟩ := id hC
  obtain ⟨⟨s1, s2⟩, s3, ⟨s4, s5⟩, ⟨s6, s7, s8⟩, s9, ⟨s10, s11⟩, s12⟩ := id hS
  refine MC.of (by decide) (Nat.le_of_ble_eq_true rfl) (fun ok okh => ?_)
  show EX G mX9_below d 0 0 _ 0 [(0, vA x), (1, vI f), (2, vI g)] [] h 0 0
  refine x_aload_n 0 dX9_below_0 rfl rfl ?_
  refine x_iload_n 1 dX9_below_1 rfl rfl ?_
  refine x_callV [vI f] dX9_below_2 kv_X9_90 rfl rfl hx (by omega) (Nat.le_of_ble_eq_true rfl) (by omega) (by omega) (k_X9_curveNumbered (d := 0) hC hS (f := f)) (fun r1 h1 q1 => ?_)
  rcases q1 with ⟨e2, hn1, rfl⟩ | ⟨e2, hf1, c1, ci1, a1, am1, ld1, rfl, hcx1⟩
  · rw [e2]
    show EX G mX9_below d 0 0 _ _ _ [vN] _ _ _
    refine x_astorer_n (L' := [(3, vN), (0, vA x), (1, vI f), (2, vI g)]) dX9_below_5 rfl (Nat.le_of_ble_eq_true rfl) rfl ?_
    refine x_aload_n 1 dX9_below_6 rfl rfl ?_
    refine x_iload_n 3 dX9_below_7 rfl rfl ?_
    refine x_callV [vI g] dX9_below_8 kv_X9_90 rfl rfl hx (by omega) (Nat.le_of_ble_eq_true rfl) (by omega) (by omega) (k_X9_curveNumbered (d := 0) hC hS (f := g)) (fun r1 h1 q1 => ?_)
    rcases q1 with ⟨e2, hn2, rfl⟩ | ⟨e2, hf2, c2, ci2, a2, am2, ld2, rfl, hcx2⟩
    · rw [e2]
      show EX G mX9_below d 0 0 _ _ _ [vN] _ _ _
      refine x_astorer (L' := [(4, vN), (3, vN), (0, vA x), (1, vI f), (2, vI g)]) dX9_below_11 (Nat.le_of_ble_eq_true rfl) rfl ?_
      refine x_aloadr_n 1 dX9_below_13 rfl rfl ?_
      refine x_ifnull (r := none) 22 dX9_below_14 (by decide) (fun _ => ?_) (fun z => nomatch z)
      refine x_aload_n 2 dX9_below_22 rfl rfl ?_
      refine x_iconst dX9_below_23 (okI_c rfl) ?_
      refine x_callV [vI ((-1))] dX9_below_24 kv_X9_59 rfl rfl hx (by omega) (Nat.le_of_ble_eq_true rfl) (by omega) (by omega) (k_X9_refused (d := 0) (S := S)  (hC)) (fun r1 h1 q1 => ?_)
      obtain ⟨rfl, hCz, hFz⟩ := q1
      exact x_ireturn dX9_below_27 rfl (by omega) (by omega) (outC (by rw [oBelow, cond_t (by first | exact Or.inl hn1 | exact Or.inr hn2)]; rfl) hCz (Fr.trans Fr.refl hFz))
    · rw [e2]
      obtain ⟨hcv2, hki2, hok2, hF2, hK2, hL2, hi2, ha2⟩ := id hcx2
      show EX G mX9_below d 0 0 _ _ _ [vA c2] _ _ _
      refine x_astore (L' := [(4, vA c2), (3, vN), (0, vA x), (1, vI f), (2, vI g)]) dX9_below_11 (Nat.le_of_ble_eq_true rfl) rfl ?_
      refine x_aloadr_n 1 dX9_below_13 rfl rfl ?_
      refine x_ifnull (r := none) 22 dX9_below_14 (by decide) (fun _ => ?_) (fun z => nomatch z)
      refine x_aload_n 2 dX9_below_22 rfl rfl ?_
      refine x_iconst dX9_below_23 (okI_c rfl) ?_
      refine x_callV [vI ((-1))] dX9_below_24 kv_X9_59 rfl rfl hx (by omega) (Nat.le_of_ble_eq_true rfl) (by omega) (by omega) (k_X9_refused (d := 0) (S := S)  (hC)) (fun r1 h1 q1 => ?_)
      obtain ⟨rfl, hCz, hFz⟩ := q1
      exact x_ireturn dX9_below_27 rfl (by omega) (by omega) (outC (by rw [oBelow, cond_t (by first | exact Or.inl hn1 | exact Or.inr hn2)]; rfl) hCz (Fr.trans Fr.refl hFz))
  · rw [e2]
    obtain ⟨hcv1, hki1, hok1, hF1, hK1, hL1, hi1, ha1⟩ := id hcx1
    show EX G mX9_below d 0 0 _ _ _ [vA c1] _ _ _
    refine x_astore_n (L' := [(3, vA c1), (0, vA x), (1, vI f), (2, vI g)]) dX9_below_5 rfl (Nat.le_of_ble_eq_true rfl) rfl ?_
    refine x_aload_n 1 dX9_below_6 rfl rfl ?_
    refine x_iload_n 3 dX9_below_7 rfl rfl ?_
    refine x_callV [vI g] dX9_below_8 kv_X9_90 rfl rfl hx (by omega) (Nat.le_of_ble_eq_true rfl) (by omega) (by omega) (k_X9_curveNumbered (d := 0) hC hS (f := g)) (fun r1 h1 q1 => ?_)
    rcases q1 with ⟨e2, hn2, rfl⟩ | ⟨e2, hf2, c2, ci2, a2, am2, ld2, rfl, hcx2⟩
    · rw [e2]
      show EX G mX9_below d 0 0 _ _ _ [vN] _ _ _
      refine x_astorer (L' := [(4, vN), (3, vA c1), (0, vA x), (1, vI f), (2, vI g)]) dX9_below_11 (Nat.le_of_ble_eq_true rfl) rfl ?_
      refine x_aload_n 1 dX9_below_13 rfl rfl ?_
      refine x_ifnull (r := some c1) 22 dX9_below_14 (by decide) (fun z => nomatch z) (fun _ => ?_)
      refine x_aloadr 0 dX9_below_17 rfl ?_
      refine x_ifnonnull (r := none) 28 dX9_below_19 (by decide) (fun z => nomatch z) (fun _ => ?_)
      refine x_aload_n 2 dX9_below_22 rfl rfl ?_
      refine x_iconst dX9_below_23 (okI_c rfl) ?_
      refine x_callV [vI ((-1))] dX9_below_24 kv_X9_59 rfl rfl hx (by omega) (Nat.le_of_ble_eq_true rfl) (by omega) (by omega) (k_X9_refused (d := 0) (S := S)  (hC)) (fun r1 h1 q1 => ?_)
      obtain ⟨rfl, hCz, hFz⟩ := q1
      exact x_ireturn dX9_below_27 rfl (by omega) (by omega) (outC (by rw [oBelow, cond_t (by first | exact Or.inl hn1 | exact Or.inr hn2)]; rfl) hCz (Fr.trans Fr.refl hFz))
    · rw [e2]
      obtain ⟨hcv2, hki2, hok2, hF2, hK2, hL2, hi2, ha2⟩ := id hcx2
      show EX G mX9_below d 0 0 _ _ _ [vA c2] _ _ _
      refine x_astore (L' := [(4, vA c2), (3, vA c1), (0, vA x), (1, vI f), (2, vI g)]) dX9_below_11 (Nat.le_of_ble_eq_true rfl) rfl ?_
      refine x_aload_n 1 dX9_below_13 rfl rfl ?_
      refine x_ifnull (r := some c1) 22 dX9_below_14 (by decide) (fun z => nomatch z) (fun _ => ?_)
      refine x_aload 0 dX9_below_17 rfl ?_
      refine x_ifnonnull (r := some c2) 28 dX9_below_19 (by decide) (fun _ => ?_) (fun z => nomatch z)
      refine x_aload_n 1 dX9_below_28 rfl rfl ?_
      refine x_aload 0 dX9_below_29 rfl ?_
      refine x_callS [vA c1, vA c2] dX9_below_31 ks_X9_93 rfl rfl (by omega) (Nat.le_of_ble_eq_true rfl) (by omega) (by omega) (k_X4_commonStep (d := 0) hcv1 hok1 hcv2 hok2) (after_ret ?_)
      refine x_nmI (fun x1 e_x1 => ?_)
      refine x_istore (L' := [(5, vI x1), (4, vA c2), (3, vA c1), (0, vA x), (1, vI f), (2, vI g)]) dX9_below_34 (Nat.le_of_ble_eq_true rfl) rfl ?_
      refine x_iload 0 dX9_below_36 rfl ?_
      refine x_iconst dX9_below_38 (okI_c rfl) ?_
      refine x_icmp_ne 49 dX9_below_39 (by decide) (fun c_39 => ?_) (fun c_39 => ?_)
      · have hx1 : sP S f g = x1 := e_x1.symm
        have hp := lcmS_f (a := sD S f) (b := sD S g) hok1.2.2.1 hok2.2.2.1 (by rw [← e_x1]; omega)
        rw [← e_x1] at hp
        have hmx : sMx S f g = max (sT S f) (sT S g) + x1 := by rw [sMx, hx1]
        refine x_aload_n 2 dX9_below_49 rfl rfl ?_
        refine x_aload 1 dX9_below_50 rfl ?_
        refine x_iload 0 dX9_below_52 rfl ?_
        refine x_callS [vA c1, vA c2, vI x1] dX9_below_54 ks_X9_99 rfl rfl (by omega) (Nat.le_of_ble_eq_true rfl) (by omega) (by omega) (k_X4_outruns (d := 1) (by omega) hcv1 hok1 hcv2 hok2 (p := x1) (by omega) (by omega)) (after_ret ?_)
        refine x_if_ne 77 dX9_below_57 (by decide) (fun c_57 => ?_) (fun c_57 => ?_)
        · refine x_iconst dX9_below_77 (okI_c rfl) ?_
          refine x_istore (L' := [(6, vI 0), (5, vI x1), (4, vA c2), (3, vA c1), (0, vA x), (1, vI f), (2, vI g)]) dX9_below_78 (Nat.le_of_ble_eq_true rfl) rfl ?_
          refine x_aload_n 4 dX9_below_80 rfl rfl ?_
          refine x_iload 0 dX9_below_81 rfl ?_
          refine x_if_eq 90 dX9_below_83 (by decide) (fun c_83 => ?_) (fun c_83 => (by exfalso; omega))
          refine x_iconst dX9_below_90 (okI_c rfl) ?_
          refine x_callV [vI 0] dX9_below_91 kv_X9_63 rfl rfl hx (by omega) (Nat.le_of_ble_eq_true rfl) (by omega) (by omega) (k_X9_granted (d := 0) (S := S)  (hC)) (fun r1 h1 q1 => ?_)
          obtain ⟨rfl, hCz, hFz⟩ := q1
          exact x_ireturn dX9_below_94 rfl (by omega) (by omega) (outC (by rw [oBelow, cond_f (fun z => z.elim (fun y => y hf1) (fun y => y hf2)), if_neg (by omega)]; show (b2i _, _) = _; rw [hx1, hmx, ← hF1, ← hF2]; refine congrArg (fun z : Int => (z, sLa 0 S)) (b2i_f ?_); intro z; have z1 : sC S f * (x1 / sD S f) ≤ sC S g * (x1 / sD S g) := z.1; first | (have := b2i_ne c_57; omega) | exact c_69 (sup0_z.mpr fun t q1 q2 => by have := z.2 t q1 (by omega); omega)) hCz (Fr.trans Fr.refl hFz))
        · refine x_aload_n 2 dX9_below_60 rfl rfl ?_
          refine x_aload 1 dX9_below_61 rfl ?_
          refine x_iload 0 dX9_below_63 rfl ?_
          refine x_callS [vA c1, vA c2, vI x1] dX9_below_65 ks_X9_150 rfl rfl (by omega) (Nat.le_of_ble_eq_true rfl) (by omega) (by omega) (k_X4_greatestLead (d := 2) (by omega) hcv1 hok1 hcv2 hok2 (p := x1) (by omega) (by omega)) (after_ret ?_)
          
          refine x_lconst (x := 0) dX9_below_68 (okJ_c rfl) rfl ?_
          refine x_lc_ne 77 dX9_below_69 dX9_below_70 (by decide) (fun c_69 => ?_) (fun c_69 => ?_)
          · refine x_iconst dX9_below_77 (okI_c rfl) ?_
            refine x_istore (L' := [(6, vI 0), (5, vI x1), (4, vA c2), (3, vA c1), (0, vA x), (1, vI f), (2, vI g)]) dX9_below_78 (Nat.le_of_ble_eq_true rfl) rfl ?_
            refine x_aload_n 4 dX9_below_80 rfl rfl ?_
            refine x_iload 0 dX9_below_81 rfl ?_
            refine x_if_eq 90 dX9_below_83 (by decide) (fun c_83 => ?_) (fun c_83 => (by exfalso; omega))
            refine x_iconst dX9_below_90 (okI_c rfl) ?_
            refine x_callV [vI 0] dX9_below_91 kv_X9_63 rfl rfl hx (by omega) (Nat.le_of_ble_eq_true rfl) (by omega) (by omega) (k_X9_granted (d := 0) (S := S)  (hC)) (fun r1 h1 q1 => ?_)
            obtain ⟨rfl, hCz, hFz⟩ := q1
            exact x_ireturn dX9_below_94 rfl (by omega) (by omega) (outC (by rw [oBelow, cond_f (fun z => z.elim (fun y => y hf1) (fun y => y hf2)), if_neg (by omega)]; show (b2i _, _) = _; rw [hx1, hmx, ← hF1, ← hF2]; refine congrArg (fun z : Int => (z, sLa 0 S)) (b2i_f ?_); intro z; have z1 : sC S f * (x1 / sD S f) ≤ sC S g * (x1 / sD S g) := z.1; first | (have := b2i_ne c_57; omega) | exact c_69 (sup0_z.mpr fun t q1 q2 => by have := z.2 t q1 (by omega); omega)) hCz (Fr.trans Fr.refl hFz))
          · refine x_iconst dX9_below_73 (okI_c rfl) ?_
            refine x_goto 78 dX9_below_74 (by decide) ?_
            refine x_istore (L' := [(6, vI 1), (5, vI x1), (4, vA c2), (3, vA c1), (0, vA x), (1, vI f), (2, vI g)]) dX9_below_78 (Nat.le_of_ble_eq_true rfl) rfl ?_
            refine x_aload_n 4 dX9_below_80 rfl rfl ?_
            refine x_iload 0 dX9_below_81 rfl ?_
            refine x_if_eq 90 dX9_below_83 (by decide) (fun c_83 => (by exfalso; omega)) (fun c_83 => ?_)
            refine x_iconst dX9_below_86 (okI_c rfl) ?_
            refine x_goto 91 dX9_below_87 (by decide) ?_
            refine x_callV [vI 1] dX9_below_91 kv_X9_63 rfl rfl hx (by omega) (Nat.le_of_ble_eq_true rfl) (by omega) (by omega) (k_X9_granted (d := 0) (S := S)  (hC)) (fun r1 h1 q1 => ?_)
            obtain ⟨rfl, hCz, hFz⟩ := q1
            exact x_ireturn dX9_below_94 rfl (by omega) (by omega) (outC (by rw [oBelow, cond_f (fun z => z.elim (fun y => y hf1) (fun y => y hf2)), if_neg (by omega)]; show (b2i _, _) = _; rw [hx1, hmx, ← hF1, ← hF2]; exact congrArg (fun z : Int => (z, sLa 0 S)) (b2i_t ⟨(by have := b2i_eq c_57; show sC S f * (x1 / sD S f) ≤ sC S g * (x1 / sD S g); omega), fun t q1 q2 => (by have := sup0_z.mp c_69 t q1 (by omega); omega)⟩)) hCz (Fr.trans Fr.refl hFz))
      · refine x_aload_n 3 dX9_below_42 rfl rfl ?_
        refine x_bipush dX9_below_43 (okI_c rfl) (by decide +kernel) ?_
        refine x_callV [vI ((-4))] dX9_below_45 kv_X9_59 rfl rfl hx (by omega) (Nat.le_of_ble_eq_true rfl) (by omega) (by omega) (k_X9_refused (d := 0) (S := S)  (hC)) (fun r1 h1 q1 => ?_)
        obtain ⟨rfl, hCz, hFz⟩ := q1
        exact x_ireturn dX9_below_48 rfl (by omega) (by omega) (outC (by rw [oBelow, cond_f (fun z => z.elim (fun y => y hf1) (fun y => y hf2)), if_pos (by have : sP S f g = x1 := e_x1.symm; omega)]; rfl) hCz (Fr.trans Fr.refl hFz))
set_option maxRecDepth 100000 in
set_option maxHeartbeats 4000000 in
theorem k_X9_first {G : aG} {d : Nat} (hd : 5 ≤ d) {x ac ar rr cr ta tm mk md on ot lo hi : Nat} {S : aS} {nc : Nat} {h : aH} (hC : CRel x ac ar rr cr ta tm mk md on ot lo hi S h) (hS : SOk nc S) {f : Int} {v : Int} : MC G mX9_first d 0 0 [vA x, vI f, vJ v] h (COut x ac ar rr cr ta tm mk md on ot lo hi h vI (oFirst f v S)) := by
  obtain ⟨⟨o1, o2, o3, o4, o5, o6, o7, o8, o9, oA, oB, oC, oD⟩, hx, ⟨fc, hac, hcs⟩, ⟨fr, har, hrw⟩, ⟨cm, hrr, hcr, hcm⟩, ⟨gt, hta, htm, htl⟩, hmk, ⟨gm, hmd⟩, ⟨g1, hon⟩, ⟨g2, hot⟩⟩ := id hC
  obtain ⟨⟨s1, s2⟩, s3, ⟨s4, s5⟩, ⟨s6, s7, s8⟩, s9, ⟨s10, s11⟩, s12⟩ := id hS
  refine MC.of (by decide) (Nat.le_of_ble_eq_true rfl) (fun ok okh => ?_)
  show EX G mX9_first d 0 0 _ 0 [(0, vA x), (1, vI f), (2, vJ v)] [] h 0 0
  have okv : okJ v := ok (vJ v) (by simp)
  refine x_aload_n 0 dX9_first_0 rfl rfl ?_
  refine x_iload_n 1 dX9_first_1 rfl rfl ?_
  refine x_callV [vI f] dX9_first_2 kv_X9_90 rfl rfl hx (by omega) (Nat.le_of_ble_eq_true rfl) (by omega) (by omega) (k_X9_curveNumbered (d := 0) hC hS (f := f)) (fun r1 h1 q1 => ?_)
  rcases q1 with ⟨e2, hn1, rfl⟩ | ⟨e2, hf1, c1, ci1, a1, am1, ld1, rfl, hcx1⟩
  · rw [e2]
    show EX G mX9_first d 0 0 _ _ _ [vN] _ _ _
    refine x_astorer (L' := [(4, vN), (0, vA x), (1, vI f), (2, vJ v)]) dX9_first_5 (Nat.le_of_ble_eq_true rfl) rfl ?_
    refine x_aloadr 0 dX9_first_7 rfl ?_
    refine x_ifnull (r := none) 18 dX9_first_9 (by decide) (fun _ => ?_) (fun z => nomatch z)
    refine x_aload_n 1 dX9_first_18 rfl rfl ?_
    refine x_iconst dX9_first_19 (okI_c rfl) ?_
    refine x_callV [vI ((-1))] dX9_first_20 kv_X9_59 rfl rfl hx (by omega) (Nat.le_of_ble_eq_true rfl) (by omega) (by omega) (k_X9_refused (d := 0) (S := S)  (hC)) (fun r1 h1 q1 => ?_)
    obtain ⟨rfl, hCz, hFz⟩ := q1
    exact x_ireturn dX9_first_23 rfl (by omega) (by omega) (outC (by rw [oFirst, cond_t (by first | exact Or.inl hn1 | exact Or.inr (by omega))]; rfl) hCz (Fr.trans Fr.refl hFz))
  · rw [e2]
    obtain ⟨hcv1, hki1, hok1, hF1, hK1, hL1, hi1, ha1⟩ := id hcx1
    show EX G mX9_first d 0 0 _ _ _ [vA c1] _ _ _
    refine x_astore (L' := [(4, vA c1), (0, vA x), (1, vI f), (2, vJ v)]) dX9_first_5 (Nat.le_of_ble_eq_true rfl) rfl ?_
    refine x_aload 0 dX9_first_7 rfl ?_
    refine x_ifnull (r := some c1) 18 dX9_first_9 (by decide) (fun z => nomatch z) (fun _ => ?_)
    refine x_lload_n 3 dX9_first_12 rfl rfl ?_
    refine x_lconst (x := 0) dX9_first_13 (okJ_c rfl) rfl ?_
    refine x_lc_ge 24 dX9_first_14 dX9_first_15 (by decide) (fun c_14 => ?_) (fun c_14 => ?_)
    · refine x_aload 0 dX9_first_24 rfl ?_
      refine x_lload_n 3 dX9_first_26 rfl rfl ?_
      refine x_ldc (n := 1000000000) dX9_first_27 (okI_c rfl) kc_X9_73 ?_
      refine x_callU [vJ v, vI 1000000000] dX9_first_29 (ku_X9_154 _ hcv1.2.2) rfl rfl hcv1.1 (by omega) (Nat.le_of_ble_eq_true rfl) (by omega) (by omega) (k_X1_first (d := 1) (by omega) hcv1 hok1 (v := v) (last := 1000000000) okv (by omega) (by omega)) (after_ret ?_)
      refine x_nmI (fun x1 e_x1 => ?_)
      refine x_istore (L' := [(5, vI x1), (4, vA c1), (0, vA x), (1, vI f), (2, vJ v)]) dX9_first_32 (Nat.le_of_ble_eq_true rfl) rfl ?_
      refine x_iload 0 dX9_first_34 rfl ?_
      refine x_iconst dX9_first_36 (okI_c rfl) ?_
      refine x_icmp_ne 49 dX9_first_37 (by decide) (fun c_37 => ?_) (fun c_37 => ?_)
      · refine x_aload_n 2 dX9_first_49 rfl rfl ?_
        refine x_iload 0 dX9_first_50 rfl ?_
        refine x_callV [vI x1] dX9_first_52 kv_X9_63 rfl rfl hx (by omega) (Nat.le_of_ble_eq_true rfl) (by omega) (by omega) (k_X9_granted (d := 0) (S := S)  (hC)) (fun r1 h1 q1 => ?_)
        obtain ⟨rfl, hCz, hFz⟩ := q1
        exact x_ireturn dX9_first_55 rfl (by omega) (by omega) (outC (by rw [oFirst, cond_f (fun z => z.elim (fun y => y hf1) (fun y => by omega)), ← hF1, ← e_x1, if_neg (by omega)]; rfl) hCz (Fr.trans Fr.refl hFz))
      · refine x_aload_n 2 dX9_first_40 rfl rfl ?_
        refine x_bipush dX9_first_41 (okI_c rfl) (by decide +kernel) ?_
        refine x_callV [vI ((-5))] dX9_first_43 kv_X9_59 rfl rfl hx (by omega) (Nat.le_of_ble_eq_true rfl) (by omega) (by omega) (k_X9_refused (d := 0) (S := S)  (hC)) (fun r1 h1 q1 => ?_)
        obtain ⟨rfl, hCz, hFz⟩ := q1
        refine x_goto 55 dX9_first_46 (by decide) ?_
        exact x_ireturn dX9_first_55 rfl (by omega) (by omega) (outC (by rw [oFirst, cond_f (fun z => z.elim (fun y => y hf1) (fun y => by omega)), ← hF1, ← e_x1, if_pos (by omega)]; rfl) hCz (Fr.trans Fr.refl hFz))
    · refine x_aload_n 1 dX9_first_18 rfl rfl ?_
      refine x_iconst dX9_first_19 (okI_c rfl) ?_
      refine x_callV [vI ((-1))] dX9_first_20 kv_X9_59 rfl rfl hx (by omega) (Nat.le_of_ble_eq_true rfl) (by omega) (by omega) (k_X9_refused (d := 0) (S := S)  (hC)) (fun r1 h1 q1 => ?_)
      obtain ⟨rfl, hCz, hFz⟩ := q1
      exact x_ireturn dX9_first_23 rfl (by omega) (by omega) (outC (by rw [oFirst, cond_t (by first | exact Or.inl hn1 | exact Or.inr (by omega))]; rfl) hCz (Fr.trans Fr.refl hFz))
set_option maxRecDepth 100000 in
set_option maxHeartbeats 4000000 in
theorem k_X9_heap {G : aG} {d : Nat} (hd : 5 ≤ d) {x ac ar rr cr ta tm mk md on ot lo hi : Nat} {S : aS} {nc : Nat} {h : aH} (hC : CRel x ac ar rr cr ta tm mk md on ot lo hi S h) (hS : SOk nc S) {f : Int} {g : Int} : MC G mX9_heap d 0 0 [vA x, vI f, vI g] h (COut x ac ar rr cr ta tm mk md on ot lo hi h vJ (oHeap f g S)) := by
  obtain ⟨⟨o1, o2, o3, o4, o5, o6, o7, o8, o9, oA, oB, oC, oD⟩, hx, ⟨fc, hac, hcs⟩, ⟨fr, har, hrw⟩, ⟨cm, hrr, hcr, hcm⟩, ⟨gt, hta, htm, htl⟩, hmk, ⟨gm, hmd⟩, ⟨g1, hon⟩, ⟨g2, hot⟩⟩ := id hC
  obtain ⟨⟨s1, s2⟩, s3, ⟨s4, s5⟩, ⟨s6, s7, s8⟩, s9, ⟨s10, s11⟩, s12⟩ := id hS
  refine MC.of (by decide) (Nat.le_of_ble_eq_true rfl) (fun ok okh => ?_)
  show EX G mX9_heap d 0 0 _ 0 [(0, vA x), (1, vI f), (2, vI g)] [] h 0 0
  refine x_aload_n 0 dX9_heap_0 rfl rfl ?_
  refine x_iload_n 1 dX9_heap_1 rfl rfl ?_
  refine x_callV [vI f] dX9_heap_2 kv_X9_90 rfl rfl hx (by omega) (Nat.le_of_ble_eq_true rfl) (by omega) (by omega) (k_X9_curveNumbered (d := 0) hC hS (f := f)) (fun r1 h1 q1 => ?_)
  rcases q1 with ⟨e2, hn1, rfl⟩ | ⟨e2, hf1, c1, ci1, a1, am1, ld1, rfl, hcx1⟩
  · rw [e2]
    show EX G mX9_heap d 0 0 _ _ _ [vN] _ _ _
    refine x_astorer_n (L' := [(3, vN), (0, vA x), (1, vI f), (2, vI g)]) dX9_heap_5 rfl (Nat.le_of_ble_eq_true rfl) rfl ?_
    refine x_aload_n 1 dX9_heap_6 rfl rfl ?_
    refine x_iload_n 3 dX9_heap_7 rfl rfl ?_
    refine x_callV [vI g] dX9_heap_8 kv_X9_90 rfl rfl hx (by omega) (Nat.le_of_ble_eq_true rfl) (by omega) (by omega) (k_X9_curveNumbered (d := 0) hC hS (f := g)) (fun r1 h1 q1 => ?_)
    rcases q1 with ⟨e2, hn2, rfl⟩ | ⟨e2, hf2, c2, ci2, a2, am2, ld2, rfl, hcx2⟩
    · rw [e2]
      show EX G mX9_heap d 0 0 _ _ _ [vN] _ _ _
      refine x_astorer (L' := [(4, vN), (3, vN), (0, vA x), (1, vI f), (2, vI g)]) dX9_heap_11 (Nat.le_of_ble_eq_true rfl) rfl ?_
      refine x_aloadr_n 1 dX9_heap_13 rfl rfl ?_
      refine x_ifnull (r := none) 22 dX9_heap_14 (by decide) (fun _ => ?_) (fun z => nomatch z)
      refine x_aload_n 2 dX9_heap_22 rfl rfl ?_
      refine x_iconst dX9_heap_23 (okI_c rfl) ?_
      refine x_callV [vI ((-1))] dX9_heap_24 kv_X9_114 rfl rfl hx (by omega) (Nat.le_of_ble_eq_true rfl) (by omega) (by omega) (k_X9_refusedAmount (d := 0) (S := S)  (hC)) (fun r1 h1 q1 => ?_)
      obtain ⟨rfl, hCz, hFz⟩ := q1
      exact x_lreturn dX9_heap_27 rfl (by omega) (by omega) (outC (by rw [oHeap, cond_t (by first | exact Or.inl hn1 | exact Or.inr hn2)]; rfl) hCz (Fr.trans Fr.refl hFz))
    · rw [e2]
      obtain ⟨hcv2, hki2, hok2, hF2, hK2, hL2, hi2, ha2⟩ := id hcx2
      show EX G mX9_heap d 0 0 _ _ _ [vA c2] _ _ _
      refine x_astore (L' := [(4, vA c2), (3, vN), (0, vA x), (1, vI f), (2, vI g)]) dX9_heap_11 (Nat.le_of_ble_eq_true rfl) rfl ?_
      refine x_aloadr_n 1 dX9_heap_13 rfl rfl ?_
      refine x_ifnull (r := none) 22 dX9_heap_14 (by decide) (fun _ => ?_) (fun z => nomatch z)
      refine x_aload_n 2 dX9_heap_22 rfl rfl ?_
      refine x_iconst dX9_heap_23 (okI_c rfl) ?_
      refine x_callV [vI ((-1))] dX9_heap_24 kv_X9_114 rfl rfl hx (by omega) (Nat.le_of_ble_eq_true rfl) (by omega) (by omega) (k_X9_refusedAmount (d := 0) (S := S)  (hC)) (fun r1 h1 q1 => ?_)
      obtain ⟨rfl, hCz, hFz⟩ := q1
      exact x_lreturn dX9_heap_27 rfl (by omega) (by omega) (outC (by rw [oHeap, cond_t (by first | exact Or.inl hn1 | exact Or.inr hn2)]; rfl) hCz (Fr.trans Fr.refl hFz))
  · rw [e2]
    obtain ⟨hcv1, hki1, hok1, hF1, hK1, hL1, hi1, ha1⟩ := id hcx1
    show EX G mX9_heap d 0 0 _ _ _ [vA c1] _ _ _
    refine x_astore_n (L' := [(3, vA c1), (0, vA x), (1, vI f), (2, vI g)]) dX9_heap_5 rfl (Nat.le_of_ble_eq_true rfl) rfl ?_
    refine x_aload_n 1 dX9_heap_6 rfl rfl ?_
    refine x_iload_n 3 dX9_heap_7 rfl rfl ?_
    refine x_callV [vI g] dX9_heap_8 kv_X9_90 rfl rfl hx (by omega) (Nat.le_of_ble_eq_true rfl) (by omega) (by omega) (k_X9_curveNumbered (d := 0) hC hS (f := g)) (fun r1 h1 q1 => ?_)
    rcases q1 with ⟨e2, hn2, rfl⟩ | ⟨e2, hf2, c2, ci2, a2, am2, ld2, rfl, hcx2⟩
    · rw [e2]
      show EX G mX9_heap d 0 0 _ _ _ [vN] _ _ _
      refine x_astorer (L' := [(4, vN), (3, vA c1), (0, vA x), (1, vI f), (2, vI g)]) dX9_heap_11 (Nat.le_of_ble_eq_true rfl) rfl ?_
      refine x_aload_n 1 dX9_heap_13 rfl rfl ?_
      refine x_ifnull (r := some c1) 22 dX9_heap_14 (by decide) (fun z => nomatch z) (fun _ => ?_)
      refine x_aloadr 0 dX9_heap_17 rfl ?_
      refine x_ifnonnull (r := none) 28 dX9_heap_19 (by decide) (fun z => nomatch z) (fun _ => ?_)
      refine x_aload_n 2 dX9_heap_22 rfl rfl ?_
      refine x_iconst dX9_heap_23 (okI_c rfl) ?_
      refine x_callV [vI ((-1))] dX9_heap_24 kv_X9_114 rfl rfl hx (by omega) (Nat.le_of_ble_eq_true rfl) (by omega) (by omega) (k_X9_refusedAmount (d := 0) (S := S)  (hC)) (fun r1 h1 q1 => ?_)
      obtain ⟨rfl, hCz, hFz⟩ := q1
      exact x_lreturn dX9_heap_27 rfl (by omega) (by omega) (outC (by rw [oHeap, cond_t (by first | exact Or.inl hn1 | exact Or.inr hn2)]; rfl) hCz (Fr.trans Fr.refl hFz))
    · rw [e2]
      obtain ⟨hcv2, hki2, hok2, hF2, hK2, hL2, hi2, ha2⟩ := id hcx2
      show EX G mX9_heap d 0 0 _ _ _ [vA c2] _ _ _
      refine x_astore (L' := [(4, vA c2), (3, vA c1), (0, vA x), (1, vI f), (2, vI g)]) dX9_heap_11 (Nat.le_of_ble_eq_true rfl) rfl ?_
      refine x_aload_n 1 dX9_heap_13 rfl rfl ?_
      refine x_ifnull (r := some c1) 22 dX9_heap_14 (by decide) (fun z => nomatch z) (fun _ => ?_)
      refine x_aload 0 dX9_heap_17 rfl ?_
      refine x_ifnonnull (r := some c2) 28 dX9_heap_19 (by decide) (fun _ => ?_) (fun z => nomatch z)
      refine x_aload_n 1 dX9_heap_28 rfl rfl ?_
      refine x_aload 0 dX9_heap_29 rfl ?_
      refine x_callS [vA c1, vA c2] dX9_heap_31 ks_X9_93 rfl rfl (by omega) (Nat.le_of_ble_eq_true rfl) (by omega) (by omega) (k_X4_commonStep (d := 0) hcv1 hok1 hcv2 hok2) (after_ret ?_)
      refine x_nmI (fun x1 e_x1 => ?_)
      refine x_istore (L' := [(5, vI x1), (4, vA c2), (3, vA c1), (0, vA x), (1, vI f), (2, vI g)]) dX9_heap_34 (Nat.le_of_ble_eq_true rfl) rfl ?_
      refine x_iload 0 dX9_heap_36 rfl ?_
      refine x_iconst dX9_heap_38 (okI_c rfl) ?_
      refine x_icmp_ne 49 dX9_heap_39 (by decide) (fun c_39 => ?_) (fun c_39 => ?_)
      · have hx1 : sP S f g = x1 := e_x1.symm
        have hp := lcmS_f (a := sD S f) (b := sD S g) hok1.2.2.1 hok2.2.2.1 (by rw [← e_x1]; omega)
        rw [← e_x1] at hp
        have hmx : sMx S f g = max (sT S f) (sT S g) + x1 := by rw [sMx, hx1]
        refine x_aload_n 2 dX9_heap_49 rfl rfl ?_
        refine x_aload 1 dX9_heap_50 rfl ?_
        refine x_iload 0 dX9_heap_52 rfl ?_
        refine x_callS [vA c1, vA c2, vI x1] dX9_heap_54 ks_X9_99 rfl rfl (by omega) (Nat.le_of_ble_eq_true rfl) (by omega) (by omega) (k_X4_outruns (d := 1) (by omega) hcv1 hok1 hcv2 hok2 (p := x1) (by omega) (by omega)) (after_ret ?_)
        refine x_if_eq 67 dX9_heap_57 (by decide) (fun c_57 => ?_) (fun c_57 => ?_)
        · refine x_aload_n 3 dX9_heap_67 rfl rfl ?_
          refine x_aload_n 2 dX9_heap_68 rfl rfl ?_
          refine x_aload 1 dX9_heap_69 rfl ?_
          refine x_iload 0 dX9_heap_71 rfl ?_
          refine x_callS [vA c1, vA c2, vI x1] dX9_heap_73 ks_X9_150 rfl rfl (by omega) (Nat.le_of_ble_eq_true rfl) (by omega) (by omega) (k_X4_greatestLead (d := 2) (by omega) hcv1 hok1 hcv2 hok2 (p := x1) (by omega) (by omega)) (after_ret ?_)
          refine x_callV [vJ ((sup0 (fun t => (cval (sT S f) (sD S f) (sC S f) am1) t - (cval (sT S g) (sD S g) (sC S g) am2) t) (max (sT S f) (sT S g) + x1).toNat))] dX9_heap_76 kv_X9_122 rfl rfl hx (by omega) (Nat.le_of_ble_eq_true rfl) (by omega) (by omega) (k_X9_grantedAmount (d := 0) (S := S)  (hC)) (fun r1 h1 q1 => ?_)
          obtain ⟨rfl, hCz, hFz⟩ := q1
          exact x_lreturn dX9_heap_79 rfl (by omega) (by omega) (outC (by rw [oHeap, cond_f (fun z => z.elim (fun y => y hf1) (fun y => y hf2)), if_neg (by omega), hmx, hx1, if_neg (show ¬ sGi S g x1 < sGi S f x1 from b2i_eq c_57), ← hF1, ← hF2]; rfl) hCz (Fr.trans Fr.refl hFz))
        · refine x_aload_n 3 dX9_heap_60 rfl rfl ?_
          refine x_bipush dX9_heap_61 (okI_c rfl) (by decide +kernel) ?_
          refine x_callV [vI ((-5))] dX9_heap_63 kv_X9_114 rfl rfl hx (by omega) (Nat.le_of_ble_eq_true rfl) (by omega) (by omega) (k_X9_refusedAmount (d := 0) (S := S)  (hC)) (fun r1 h1 q1 => ?_)
          obtain ⟨rfl, hCz, hFz⟩ := q1
          exact x_lreturn dX9_heap_66 rfl (by omega) (by omega) (outC (by rw [oHeap, cond_f (fun z => z.elim (fun y => y hf1) (fun y => y hf2)), if_neg (by omega), hx1, if_pos (show sGi S g x1 < sGi S f x1 from b2i_ne c_57)]; rfl) hCz (Fr.trans Fr.refl hFz))
      · refine x_aload_n 3 dX9_heap_42 rfl rfl ?_
        refine x_bipush dX9_heap_43 (okI_c rfl) (by decide +kernel) ?_
        refine x_callV [vI ((-4))] dX9_heap_45 kv_X9_114 rfl rfl hx (by omega) (Nat.le_of_ble_eq_true rfl) (by omega) (by omega) (k_X9_refusedAmount (d := 0) (S := S)  (hC)) (fun r1 h1 q1 => ?_)
        obtain ⟨rfl, hCz, hFz⟩ := q1
        exact x_lreturn dX9_heap_48 rfl (by omega) (by omega) (outC (by rw [oHeap, cond_f (fun z => z.elim (fun y => y hf1) (fun y => y hf2)), if_pos (by have : sP S f g = x1 := e_x1.symm; omega)]; rfl) hCz (Fr.trans Fr.refl hFz))
set_option maxRecDepth 100000 in
set_option maxHeartbeats 4000000 in
theorem k_X9_wait {G : aG} {d : Nat} (hd : 5 ≤ d) {x ac ar rr cr ta tm mk md on ot lo hi : Nat} {S : aS} {nc : Nat} {h : aH} (hC : CRel x ac ar rr cr ta tm mk md on ot lo hi S h) (hS : SOk nc S) {f : Int} {g : Int} : MC G mX9_wait d 0 0 [vA x, vI f, vI g] h (COut x ac ar rr cr ta tm mk md on ot lo hi h vI (oWait f g S)) := by
  obtain ⟨⟨o1, o2, o3, o4, o5, o6, o7, o8, o9, oA, oB, oC, oD⟩, hx, ⟨fc, hac, hcs⟩, ⟨fr, har, hrw⟩, ⟨cm, hrr, hcr, hcm⟩, ⟨gt, hta, htm, htl⟩, hmk, ⟨gm, hmd⟩, ⟨g1, hon⟩, ⟨g2, hot⟩⟩ := id hC
  obtain ⟨⟨s1, s2⟩, s3, ⟨s4, s5⟩, ⟨s6, s7, s8⟩, s9, ⟨s10, s11⟩, s12⟩ := id hS
  refine MC.of (by decide) (Nat.le_of_ble_eq_true rfl) (fun ok okh => ?_)
  show EX G mX9_wait d 0 0 _ 0 [(0, vA x), (1, vI f), (2, vI g)] [] h 0 0
  refine x_aload_n 0 dX9_wait_0 rfl rfl ?_
  refine x_iload_n 1 dX9_wait_1 rfl rfl ?_
  refine x_callV [vI f] dX9_wait_2 kv_X9_90 rfl rfl hx (by omega) (Nat.le_of_ble_eq_true rfl) (by omega) (by omega) (k_X9_curveNumbered (d := 0) hC hS (f := f)) (fun r1 h1 q1 => ?_)
  rcases q1 with ⟨e2, hn1, rfl⟩ | ⟨e2, hf1, c1, ci1, a1, am1, ld1, rfl, hcx1⟩
  · rw [e2]
    show EX G mX9_wait d 0 0 _ _ _ [vN] _ _ _
    refine x_astorer_n (L' := [(3, vN), (0, vA x), (1, vI f), (2, vI g)]) dX9_wait_5 rfl (Nat.le_of_ble_eq_true rfl) rfl ?_
    refine x_aload_n 1 dX9_wait_6 rfl rfl ?_
    refine x_iload_n 3 dX9_wait_7 rfl rfl ?_
    refine x_callV [vI g] dX9_wait_8 kv_X9_90 rfl rfl hx (by omega) (Nat.le_of_ble_eq_true rfl) (by omega) (by omega) (k_X9_curveNumbered (d := 0) hC hS (f := g)) (fun r1 h1 q1 => ?_)
    rcases q1 with ⟨e2, hn2, rfl⟩ | ⟨e2, hf2, c2, ci2, a2, am2, ld2, rfl, hcx2⟩
    · rw [e2]
      show EX G mX9_wait d 0 0 _ _ _ [vN] _ _ _
      refine x_astorer (L' := [(4, vN), (3, vN), (0, vA x), (1, vI f), (2, vI g)]) dX9_wait_11 (Nat.le_of_ble_eq_true rfl) rfl ?_
      refine x_aloadr_n 1 dX9_wait_13 rfl rfl ?_
      refine x_ifnull (r := none) 22 dX9_wait_14 (by decide) (fun _ => ?_) (fun z => nomatch z)
      refine x_aload_n 2 dX9_wait_22 rfl rfl ?_
      refine x_iconst dX9_wait_23 (okI_c rfl) ?_
      refine x_callV [vI ((-1))] dX9_wait_24 kv_X9_59 rfl rfl hx (by omega) (Nat.le_of_ble_eq_true rfl) (by omega) (by omega) (k_X9_refused (d := 0) (S := S)  (hC)) (fun r1 h1 q1 => ?_)
      obtain ⟨rfl, hCz, hFz⟩ := q1
      exact x_ireturn dX9_wait_27 rfl (by omega) (by omega) (outC (by rw [oWait, cond_t (by first | exact Or.inl hn1 | exact Or.inr hn2)]; rfl) hCz (Fr.trans Fr.refl hFz))
    · rw [e2]
      obtain ⟨hcv2, hki2, hok2, hF2, hK2, hL2, hi2, ha2⟩ := id hcx2
      show EX G mX9_wait d 0 0 _ _ _ [vA c2] _ _ _
      refine x_astore (L' := [(4, vA c2), (3, vN), (0, vA x), (1, vI f), (2, vI g)]) dX9_wait_11 (Nat.le_of_ble_eq_true rfl) rfl ?_
      refine x_aloadr_n 1 dX9_wait_13 rfl rfl ?_
      refine x_ifnull (r := none) 22 dX9_wait_14 (by decide) (fun _ => ?_) (fun z => nomatch z)
      refine x_aload_n 2 dX9_wait_22 rfl rfl ?_
      refine x_iconst dX9_wait_23 (okI_c rfl) ?_
      refine x_callV [vI ((-1))] dX9_wait_24 kv_X9_59 rfl rfl hx (by omega) (Nat.le_of_ble_eq_true rfl) (by omega) (by omega) (k_X9_refused (d := 0) (S := S)  (hC)) (fun r1 h1 q1 => ?_)
      obtain ⟨rfl, hCz, hFz⟩ := q1
      exact x_ireturn dX9_wait_27 rfl (by omega) (by omega) (outC (by rw [oWait, cond_t (by first | exact Or.inl hn1 | exact Or.inr hn2)]; rfl) hCz (Fr.trans Fr.refl hFz))
  · rw [e2]
    obtain ⟨hcv1, hki1, hok1, hF1, hK1, hL1, hi1, ha1⟩ := id hcx1
    show EX G mX9_wait d 0 0 _ _ _ [vA c1] _ _ _
    refine x_astore_n (L' := [(3, vA c1), (0, vA x), (1, vI f), (2, vI g)]) dX9_wait_5 rfl (Nat.le_of_ble_eq_true rfl) rfl ?_
    refine x_aload_n 1 dX9_wait_6 rfl rfl ?_
    refine x_iload_n 3 dX9_wait_7 rfl rfl ?_
    refine x_callV [vI g] dX9_wait_8 kv_X9_90 rfl rfl hx (by omega) (Nat.le_of_ble_eq_true rfl) (by omega) (by omega) (k_X9_curveNumbered (d := 0) hC hS (f := g)) (fun r1 h1 q1 => ?_)
    rcases q1 with ⟨e2, hn2, rfl⟩ | ⟨e2, hf2, c2, ci2, a2, am2, ld2, rfl, hcx2⟩
    · rw [e2]
      show EX G mX9_wait d 0 0 _ _ _ [vN] _ _ _
      refine x_astorer (L' := [(4, vN), (3, vA c1), (0, vA x), (1, vI f), (2, vI g)]) dX9_wait_11 (Nat.le_of_ble_eq_true rfl) rfl ?_
      refine x_aload_n 1 dX9_wait_13 rfl rfl ?_
      refine x_ifnull (r := some c1) 22 dX9_wait_14 (by decide) (fun z => nomatch z) (fun _ => ?_)
      refine x_aloadr 0 dX9_wait_17 rfl ?_
      refine x_ifnonnull (r := none) 28 dX9_wait_19 (by decide) (fun z => nomatch z) (fun _ => ?_)
      refine x_aload_n 2 dX9_wait_22 rfl rfl ?_
      refine x_iconst dX9_wait_23 (okI_c rfl) ?_
      refine x_callV [vI ((-1))] dX9_wait_24 kv_X9_59 rfl rfl hx (by omega) (Nat.le_of_ble_eq_true rfl) (by omega) (by omega) (k_X9_refused (d := 0) (S := S)  (hC)) (fun r1 h1 q1 => ?_)
      obtain ⟨rfl, hCz, hFz⟩ := q1
      exact x_ireturn dX9_wait_27 rfl (by omega) (by omega) (outC (by rw [oWait, cond_t (by first | exact Or.inl hn1 | exact Or.inr hn2)]; rfl) hCz (Fr.trans Fr.refl hFz))
    · rw [e2]
      obtain ⟨hcv2, hki2, hok2, hF2, hK2, hL2, hi2, ha2⟩ := id hcx2
      show EX G mX9_wait d 0 0 _ _ _ [vA c2] _ _ _
      refine x_astore (L' := [(4, vA c2), (3, vA c1), (0, vA x), (1, vI f), (2, vI g)]) dX9_wait_11 (Nat.le_of_ble_eq_true rfl) rfl ?_
      refine x_aload_n 1 dX9_wait_13 rfl rfl ?_
      refine x_ifnull (r := some c1) 22 dX9_wait_14 (by decide) (fun z => nomatch z) (fun _ => ?_)
      refine x_aload 0 dX9_wait_17 rfl ?_
      refine x_ifnonnull (r := some c2) 28 dX9_wait_19 (by decide) (fun _ => ?_) (fun z => nomatch z)
      refine x_aload_n 1 dX9_wait_28 rfl rfl ?_
      refine x_aload 0 dX9_wait_29 rfl ?_
      refine x_callS [vA c1, vA c2] dX9_wait_31 ks_X9_93 rfl rfl (by omega) (Nat.le_of_ble_eq_true rfl) (by omega) (by omega) (k_X4_commonStep (d := 0) hcv1 hok1 hcv2 hok2) (after_ret ?_)
      refine x_nmI (fun x1 e_x1 => ?_)
      refine x_istore (L' := [(5, vI x1), (4, vA c2), (3, vA c1), (0, vA x), (1, vI f), (2, vI g)]) dX9_wait_34 (Nat.le_of_ble_eq_true rfl) rfl ?_
      refine x_iload 0 dX9_wait_36 rfl ?_
      refine x_iconst dX9_wait_38 (okI_c rfl) ?_
      refine x_icmp_ne 49 dX9_wait_39 (by decide) (fun c_39 => ?_) (fun c_39 => ?_)
      · have hx1 : sP S f g = x1 := e_x1.symm
        have hp := lcmS_f (a := sD S f) (b := sD S g) hok1.2.2.1 hok2.2.2.1 (by rw [← e_x1]; omega)
        rw [← e_x1] at hp
        have hmx : sMx S f g = max (sT S f) (sT S g) + x1 := by rw [sMx, hx1]
        refine x_aload_n 2 dX9_wait_49 rfl rfl ?_
        refine x_aload 1 dX9_wait_50 rfl ?_
        refine x_iload 0 dX9_wait_52 rfl ?_
        refine x_callS [vA c1, vA c2, vI x1] dX9_wait_54 ks_X9_99 rfl rfl (by omega) (Nat.le_of_ble_eq_true rfl) (by omega) (by omega) (k_X4_outruns (d := 1) (by omega) hcv1 hok1 hcv2 hok2 (p := x1) (by omega) (by omega)) (after_ret ?_)
        refine x_if_eq 67 dX9_wait_57 (by decide) (fun c_57 => ?_) (fun c_57 => ?_)
        · refine x_aload_n 2 dX9_wait_67 rfl rfl ?_
          refine x_aload 1 dX9_wait_68 rfl ?_
          refine x_iload 0 dX9_wait_70 rfl ?_
          refine x_callS [vA c1, vA c2, vI x1] dX9_wait_72 ks_X9_158 rfl rfl (by omega) (Nat.le_of_ble_eq_true rfl) (by omega) (by omega) (k_X4_longestWait (d := 2) (by omega) hcv1 hok1 hcv2 hok2 (p := x1) (by omega) (by omega)) (after_ret ?_)
          refine x_nmI (fun x2 e_x2 => ?_)
          refine x_istore (L' := [(6, vI x2), (5, vI x1), (4, vA c2), (3, vA c1), (0, vA x), (1, vI f), (2, vI g)]) dX9_wait_75 (Nat.le_of_ble_eq_true rfl) rfl ?_
          refine x_iload 0 dX9_wait_77 rfl ?_
          refine x_iconst dX9_wait_79 (okI_c rfl) ?_
          refine x_icmp_ne 92 dX9_wait_80 (by decide) (fun c_80 => ?_) (fun c_80 => ?_)
          · refine x_aload_n 4 dX9_wait_92 rfl rfl ?_
            refine x_iload 0 dX9_wait_93 rfl ?_
            refine x_callV [vI x2] dX9_wait_95 kv_X9_63 rfl rfl hx (by omega) (Nat.le_of_ble_eq_true rfl) (by omega) (by omega) (k_X9_granted (d := 0) (S := S)  (hC)) (fun r1 h1 q1 => ?_)
            obtain ⟨rfl, hCz, hFz⟩ := q1
            exact x_ireturn dX9_wait_98 rfl (by omega) (by omega) (outC (by rw [oWait, cond_f (fun z => z.elim (fun y => y hf1) (fun y => y hf2)), if_neg (by omega), hmx, hx1, if_neg (show ¬ sGi S g x1 < sGi S f x1 from b2i_eq c_57), ← hF1, ← hF2, ← e_x2, if_neg c_80]; rfl) hCz (Fr.trans Fr.refl hFz))
          · refine x_aload_n 4 dX9_wait_83 rfl rfl ?_
            refine x_bipush dX9_wait_84 (okI_c rfl) (by decide +kernel) ?_
            refine x_callV [vI ((-5))] dX9_wait_86 kv_X9_59 rfl rfl hx (by omega) (Nat.le_of_ble_eq_true rfl) (by omega) (by omega) (k_X9_refused (d := 0) (S := S)  (hC)) (fun r1 h1 q1 => ?_)
            obtain ⟨rfl, hCz, hFz⟩ := q1
            refine x_goto 98 dX9_wait_89 (by decide) ?_
            exact x_ireturn dX9_wait_98 rfl (by omega) (by omega) (outC (by rw [oWait, cond_f (fun z => z.elim (fun y => y hf1) (fun y => y hf2)), if_neg (by omega), hmx, hx1, if_neg (show ¬ sGi S g x1 < sGi S f x1 from b2i_eq c_57), ← hF1, ← hF2, ← e_x2, if_pos c_80]; rfl) hCz (Fr.trans Fr.refl hFz))
        · refine x_aload_n 3 dX9_wait_60 rfl rfl ?_
          refine x_bipush dX9_wait_61 (okI_c rfl) (by decide +kernel) ?_
          refine x_callV [vI ((-5))] dX9_wait_63 kv_X9_59 rfl rfl hx (by omega) (Nat.le_of_ble_eq_true rfl) (by omega) (by omega) (k_X9_refused (d := 0) (S := S)  (hC)) (fun r1 h1 q1 => ?_)
          obtain ⟨rfl, hCz, hFz⟩ := q1
          exact x_ireturn dX9_wait_66 rfl (by omega) (by omega) (outC (by rw [oWait, cond_f (fun z => z.elim (fun y => y hf1) (fun y => y hf2)), if_neg (by omega), hx1, if_pos (show sGi S g x1 < sGi S f x1 from b2i_ne c_57)]; rfl) hCz (Fr.trans Fr.refl hFz))
      · refine x_aload_n 3 dX9_wait_42 rfl rfl ?_
        refine x_bipush dX9_wait_43 (okI_c rfl) (by decide +kernel) ?_
        refine x_callV [vI ((-4))] dX9_wait_45 kv_X9_59 rfl rfl hx (by omega) (Nat.le_of_ble_eq_true rfl) (by omega) (by omega) (k_X9_refused (d := 0) (S := S)  (hC)) (fun r1 h1 q1 => ?_)
        obtain ⟨rfl, hCz, hFz⟩ := q1
        exact x_ireturn dX9_wait_48 rfl (by omega) (by omega) (outC (by rw [oWait, cond_f (fun z => z.elim (fun y => y hf1) (fun y => y hf2)), if_pos (by have : sP S f g = x1 := e_x1.symm; omega)]; rfl) hCz (Fr.trans Fr.refl hFz))
set_option maxRecDepth 100000 in
set_option maxHeartbeats 4000000 in
theorem k_X9_rate {G : aG} {d : Nat} (hd : 5 ≤ d) {x ac ar rr cr ta tm mk md on ot lo hi : Nat} {S : aS} {nc : Nat} {h : aH} (hC : CRel x ac ar rr cr ta tm mk md on ot lo hi S h) (hS : SOk nc S) {f : Int} {w : Int} : MC G mX9_rate d 0 0 [vA x, vI f, vI w] h (COut x ac ar rr cr ta tm mk md on ot lo hi h vI (oRate f w S)) := by
  obtain ⟨⟨o1, o2, o3, o4, o5, o6, o7, o8, o9, oA, oB, oC, oD⟩, hx, ⟨fc, hac, hcs⟩, ⟨fr, har, hrw⟩, ⟨cm, hrr, hcr, hcm⟩, ⟨gt, hta, htm, htl⟩, hmk, ⟨gm, hmd⟩, ⟨g1, hon⟩, ⟨g2, hot⟩⟩ := id hC
  obtain ⟨⟨s1, s2⟩, s3, ⟨s4, s5⟩, ⟨s6, s7, s8⟩, s9, ⟨s10, s11⟩, s12⟩ := id hS
  refine MC.of (by decide) (Nat.le_of_ble_eq_true rfl) (fun ok okh => ?_)
  show EX G mX9_rate d 0 0 _ 0 [(0, vA x), (1, vI f), (2, vI w)] [] h 0 0
  refine x_aload_n 0 dX9_rate_0 rfl rfl ?_
  refine x_iload_n 1 dX9_rate_1 rfl rfl ?_
  refine x_callV [vI f] dX9_rate_2 kv_X9_90 rfl rfl hx (by omega) (Nat.le_of_ble_eq_true rfl) (by omega) (by omega) (k_X9_curveNumbered (d := 0) hC hS (f := f)) (fun r1 h1 q1 => ?_)
  rcases q1 with ⟨e2, hn1, rfl⟩ | ⟨e2, hf1, c1, ci1, a1, am1, ld1, rfl, hcx1⟩
  · rw [e2]
    show EX G mX9_rate d 0 0 _ _ _ [vN] _ _ _
    refine x_astorer_n (L' := [(3, vN), (0, vA x), (1, vI f), (2, vI w)]) dX9_rate_5 rfl (Nat.le_of_ble_eq_true rfl) rfl ?_
    refine x_aloadr_n 0 dX9_rate_6 rfl rfl ?_
    refine x_ifnull (r := none) 19 dX9_rate_7 (by decide) (fun _ => ?_) (fun z => nomatch z)
    refine x_aload_n 1 dX9_rate_19 rfl rfl ?_
    refine x_iconst dX9_rate_20 (okI_c rfl) ?_
    refine x_callV [vI ((-1))] dX9_rate_21 kv_X9_59 rfl rfl hx (by omega) (Nat.le_of_ble_eq_true rfl) (by omega) (by omega) (k_X9_refused (d := 0) (S := S)  (hC)) (fun r1 h1 q1 => ?_)
    obtain ⟨rfl, hCz, hFz⟩ := q1
    exact x_ireturn dX9_rate_24 rfl (by omega) (by omega) (outC (by rw [oRate, cond_t (by first | exact Or.inl hn1 | exact Or.inr (by omega))]; rfl) hCz (Fr.trans Fr.refl hFz))
  · rw [e2]
    obtain ⟨hcv1, hki1, hok1, hF1, hK1, hL1, hi1, ha1⟩ := id hcx1
    show EX G mX9_rate d 0 0 _ _ _ [vA c1] _ _ _
    refine x_astore_n (L' := [(3, vA c1), (0, vA x), (1, vI f), (2, vI w)]) dX9_rate_5 rfl (Nat.le_of_ble_eq_true rfl) rfl ?_
    refine x_aload_n 0 dX9_rate_6 rfl rfl ?_
    refine x_ifnull (r := some c1) 19 dX9_rate_7 (by decide) (fun z => nomatch z) (fun _ => ?_)
    refine x_iload_n 3 dX9_rate_10 rfl rfl ?_
    refine x_if_lt 19 dX9_rate_11 (by decide) (fun c_11 => ?_) (fun c_11 => ?_)
    · refine x_aload_n 1 dX9_rate_19 rfl rfl ?_
      refine x_iconst dX9_rate_20 (okI_c rfl) ?_
      refine x_callV [vI ((-1))] dX9_rate_21 kv_X9_59 rfl rfl hx (by omega) (Nat.le_of_ble_eq_true rfl) (by omega) (by omega) (k_X9_refused (d := 0) (S := S)  (hC)) (fun r1 h1 q1 => ?_)
      obtain ⟨rfl, hCz, hFz⟩ := q1
      exact x_ireturn dX9_rate_24 rfl (by omega) (by omega) (outC (by rw [oRate, cond_t (by first | exact Or.inl hn1 | exact Or.inr (by omega))]; rfl) hCz (Fr.trans Fr.refl hFz))
    · refine x_iload_n 3 dX9_rate_14 rfl rfl ?_
      refine x_iconst dX9_rate_15 (okI_c rfl) ?_
      refine x_icmp_le 25 dX9_rate_16 (by decide) (fun c_16 => ?_) (fun c_16 => ?_)
      · refine x_aload_n 0 dX9_rate_25 rfl rfl ?_
        refine x_callU [] dX9_rate_26 (ku_X9_143 _ hcv1.2.2) rfl rfl hcv1.1 (by omega) (Nat.le_of_ble_eq_true rfl) (by omega) (by omega) (k_X1_shared (d := 0) hcv1 hok1) (after_ret ?_)
        refine x_nmI (fun x1 e_x1 => ?_)
        refine x_istore (L' := [(4, vI x1), (3, vA c1), (0, vA x), (1, vI f), (2, vI w)]) dX9_rate_29 (Nat.le_of_ble_eq_true rfl) rfl ?_
        refine x_iload_n 4 dX9_rate_31 rfl rfl ?_
        refine x_if_ne 42 dX9_rate_32 (by decide) (fun c_32 => ?_) (fun c_32 => ?_)
        · refine x_aload_n 1 dX9_rate_42 rfl rfl ?_
          refine x_get 1 dX9_rate_43 (fl_X9_129 _ hcv1.2.2) hcv1.1 rfl ?_
          refine x_nmI (fun fg e_fg => ?_)
          refine x_istore (L' := [(5, vI fg), (4, vI x1), (3, vA c1), (0, vA x), (1, vI f), (2, vI w)]) dX9_rate_46 (Nat.le_of_ble_eq_true rfl) rfl ?_
          refine x_aload_n 3 dX9_rate_48 rfl rfl ?_
          refine x_iload 1 dX9_rate_49 rfl ?_
          have hg1 := gcd_nn (sC S f) (sD S f) hok1.2.2.1
          obtain ⟨hT0, hT2, hD0, hD6, hC0, hC1, hA, hM, hW⟩ := id hok1
          refine x_iconst dX9_rate_51 (okI_c rfl) ?_
          refine x_icmp_ge 60 dX9_rate_52 (by decide) (fun c_52 => ?_) (fun c_52 => (by exfalso; omega))
          refine x_iload 0 dX9_rate_60 rfl ?_
          refine x_iload 1 dX9_rate_62 rfl ?_
          refine x_idiv dX9_rate_64 (by omega) (by omega) ?_
          refine x_callV [vI (fg / x1)] dX9_rate_65 kv_X9_63 rfl rfl hx (by omega) (Nat.le_of_ble_eq_true rfl) (by omega) (by omega) (k_X9_granted (d := 0) (S := S)  (hC)) (fun r1 h1 q1 => ?_)
          obtain ⟨rfl, hCz, hFz⟩ := q1
          exact x_ireturn dX9_rate_68 rfl (by omega) (by omega) (outC (by rw [oRate, cond_f (fun z => z.elim (fun y => y hf1) (fun y => by omega)), e_fg, e_x1]; first | (rw [if_pos c_32]; rfl) | (rw [if_neg c_32]; rfl)) hCz (Fr.trans Fr.refl hFz))
        · refine x_aload_n 1 dX9_rate_35 rfl rfl ?_
          refine x_get 2 dX9_rate_36 (fl_X9_132 _ hcv1.2.2) hcv1.1 rfl ?_
          refine x_goto 46 dX9_rate_39 (by decide) ?_
          refine x_nmI (fun fg e_fg => ?_)
          refine x_istore (L' := [(5, vI fg), (4, vI x1), (3, vA c1), (0, vA x), (1, vI f), (2, vI w)]) dX9_rate_46 (Nat.le_of_ble_eq_true rfl) rfl ?_
          refine x_aload_n 3 dX9_rate_48 rfl rfl ?_
          refine x_iload 1 dX9_rate_49 rfl ?_
          have hg1 := gcd_nn (sC S f) (sD S f) hok1.2.2.1
          obtain ⟨hT0, hT2, hD0, hD6, hC0, hC1, hA, hM, hW⟩ := id hok1
          refine x_iconst dX9_rate_51 (okI_c rfl) ?_
          refine x_icmp_ge 60 dX9_rate_52 (by decide) (fun c_52 => ?_) (fun c_52 => (by exfalso; omega))
          refine x_iload 0 dX9_rate_60 rfl ?_
          refine x_iload 1 dX9_rate_62 rfl ?_
          refine x_idiv dX9_rate_64 (by omega) (by omega) ?_
          refine x_callV [vI (fg / x1)] dX9_rate_65 kv_X9_63 rfl rfl hx (by omega) (Nat.le_of_ble_eq_true rfl) (by omega) (by omega) (k_X9_granted (d := 0) (S := S)  (hC)) (fun r1 h1 q1 => ?_)
          obtain ⟨rfl, hCz, hFz⟩ := q1
          exact x_ireturn dX9_rate_68 rfl (by omega) (by omega) (outC (by rw [oRate, cond_f (fun z => z.elim (fun y => y hf1) (fun y => by omega)), e_fg, e_x1]; first | (rw [if_pos c_32]; rfl) | (rw [if_neg c_32]; rfl)) hCz (Fr.trans Fr.refl hFz))
      · refine x_aload_n 1 dX9_rate_19 rfl rfl ?_
        refine x_iconst dX9_rate_20 (okI_c rfl) ?_
        refine x_callV [vI ((-1))] dX9_rate_21 kv_X9_59 rfl rfl hx (by omega) (Nat.le_of_ble_eq_true rfl) (by omega) (by omega) (k_X9_refused (d := 0) (S := S)  (hC)) (fun r1 h1 q1 => ?_)
        obtain ⟨rfl, hCz, hFz⟩ := q1
        exact x_ireturn dX9_rate_24 rfl (by omega) (by omega) (outC (by rw [oRate, cond_t (by first | exact Or.inl hn1 | exact Or.inr (by omega))]; rfl) hCz (Fr.trans Fr.refl hFz))
