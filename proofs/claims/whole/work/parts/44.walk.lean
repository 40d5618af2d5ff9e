/-! ===== the law's loop and its beginning ===== -/
theorem lc_next {Z : aZ} {G : aG} {x m j : Nat} {kc ks : Nat} {h : aH} (hj : j ≤ 1000) (k : EL Z G mL_law 10 1045 157302 qT 18 [(0, vA Z.1), (1, vA x), (2, vA m), (3, vI (4 * ((j + 1 : Nat) : Int)))] [] h kc ks) : EL Z G mL_law 10 1045 157302 qT 1022 [(0, vA Z.1), (1, vA x), (2, vA m), (3, vI (4 * (j : Int)))] [] h kc ks := by
  refine l_iinc 3 (L' := [(3, vI (4 * (j : Int) + 4)), (0, vA Z.1), (1, vA x), (2, vA m)]) dL_law_1022 rfl (by unfold okI; omega) (Nat.le_of_ble_eq_true rfl) rfl ?_
  refine l_goto 18 dL_law_1025 (by decide) ?_
  rw [show 4 * (j : Int) + 4 = 4 * ((j + 1 : Nat) : Int) by omega]
  exact EL.pick [1, 2, 3, 0] rfl k
set_option maxHeartbeats 4000000 in
theorem lw_loop {Z : aZ} {G : aG} {x m : Nat} (hN : Z.2.1 ≤ 2048) : ∀ (k j : Nat) (h : aH) (kc ks : Nat), 4 * j ≤ Z.2.1 → Z.2.1 < 4 * (j + k) → kc ≤ 21 + 2 * j → ks ≤ 21622 + 265 * j → LwI x m j h → EL Z G mL_law 10 1045 157302 qT 18 [(0, vA Z.1), (1, vA x), (2, vA m), (3, vI (4 * (j : Int)))] [] h kc ks := by
  intro k
  induction k with
  | zero => intro j h kc ks h1 h2; omega
  | succ k ih =>
    intro j h kc ks h1 h2 h3 h4 hI
    refine l_iload_n 3 dL_law_18 rfl rfl ?_
    refine l_aload_n 0 dL_law_19 rfl rfl ?_
    refine l_slen dL_law_20 hN ?_
    refine l_iconst dL_law_21 (okI_c rfl) ?_
    refine l_isub dL_law_22 (by unfold okI; omega) ?_
    refine l_icmp_gt 1028 dL_law_23 (by decide) (fun c => ?_) (fun c => ?_)
    · refine l_iconst dL_law_1028 (okI_c rfl) ?_
      exact l_zreturn dL_law_1029 rfl (Or.inr rfl) (by omega) (by omega) rfl
    refine l_aload_n 0 dL_law_26 rfl rfl ?_
    refine l_iload_n 3 dL_law_27 rfl rfl ?_
    refine l_sld dL_law_28 (by omega) (by omega) ?_
    refine l_bipush dL_law_29 (okI_c rfl) (by decide +kernel) ?_
    refine l_wand dL_law_31 ?_
    refine l_nmI (fun v e_v => ?_)
    have next : ∀ h' : aH, LwI x m (j + 1) h' → EL Z G mL_law 10 1045 157302 qT 1022 [(0, vA Z.1), (1, vA x), (2, vA m), (3, vI (4 * (j : Int)))] [] h' (kc + 2) (ks + 265) := fun h' hI' => lc_next (by omega) (ih (j + 1) h' _ _ (by omega) (by omega) (by omega) (by omega) hI')
    clear e_v
    rcases (show v = 0 ∨ v = 1 ∨ v = 2 ∨ v = 3 ∨ v = 4 ∨ v = 5 ∨ v = 6 ∨ v = 7 ∨ v = 8 ∨ v = 9 ∨ v = 10 ∨ v = 11 ∨ v = 12 ∨ v = 13 ∨ v = 14 ∨ v = 15 ∨ v = 16 ∨ v = 17 ∨ v = 18 ∨ v = 19 ∨ v = 20 ∨ v = 21 ∨ v = 22 ∨ v = 23 ∨ v = 24 ∨ v = 25 ∨ v = 26 ∨ v = 27 ∨ v = 28 ∨ v = 29 ∨ (v < 0 ∨ 29 < v) by omega) with cs | cs | cs | cs | cs | cs | cs | cs | cs | cs | cs | cs | cs | cs | cs | cs | cs | cs | cs | cs | cs | cs | cs | cs | cs | cs | cs | cs | cs | cs | cs
    · exact l_tableIn 168 dL_law_32 (by omega) (by omega) (by rw [cs]; rfl) (by decide) (lc_put hI (by omega) (by omega) hN (by omega) (by omega) (by omega) next)
    · exact l_tableIn 221 dL_law_32 (by omega) (by omega) (by rw [cs]; rfl) (by decide) (lc_draw hI (by omega) (by omega) hN (by omega) (by omega) (by omega) next)
    · exact l_tableIn 264 dL_law_32 (by omega) (by omega) (by rw [cs]; rfl) (by decide) (lc_drop hI (by omega) (by omega) hN (by omega) (by omega) (by omega) next)
    · exact l_tableIn 277 dL_law_32 (by omega) (by omega) (by rw [cs]; rfl) (by decide) (lc_curve hI (by omega) (by omega) hN (by omega) (by omega) (by omega) next)
    · exact l_tableIn 310 dL_law_32 (by omega) (by omega) (by rw [cs]; rfl) (by decide) (lc_ray hI (by omega) (by omega) hN (by omega) (by omega) (by omega) next)
    · exact l_tableIn 333 dL_law_32 (by omega) (by omega) (by rw [cs]; rfl) (by decide) (lc_of hI (by omega) (by omega) hN (by omega) (by omega) (by omega) next)
    · exact l_tableIn 376 dL_law_32 (by omega) (by omega) (by rw [cs]; rfl) (by decide) (lc_times hI (by omega) (by omega) hN (by omega) (by omega) (by omega) next)
    · exact l_tableIn 409 dL_law_32 (by omega) (by omega) (by rw [cs]; rfl) (by decide) (lc_shift hI (by omega) (by omega) hN (by omega) (by omega) (by omega) next)
    · exact l_tableIn 442 dL_law_32 (by omega) (by omega) (by rw [cs]; rfl) (by decide) (lc_undo hI (by omega) (by omega) hN (by omega) (by omega) (by omega) next)
    · exact l_tableIn 455 dL_law_32 (by omega) (by omega) (by rw [cs]; rfl) (by decide) (lc_at hI (by omega) (by omega) hN (by omega) (by omega) (by omega) next)
    · exact l_tableIn 489 dL_law_32 (by omega) (by omega) (by rw [cs]; rfl) (by decide) (lc_about hI (by omega) (by omega) hN (by omega) (by omega) (by omega) next)
    · exact l_tableIn 522 dL_law_32 (by omega) (by omega) (by rw [cs]; rfl) (by decide) (lc_rate hI (by omega) (by omega) hN (by omega) (by omega) (by omega) next)
    · exact l_tableIn 555 dL_law_32 (by omega) (by omega) (by rw [cs]; rfl) (by decide) (lc_unlike hI (by omega) (by omega) hN (by omega) (by omega) (by omega) next)
    · exact l_tableIn 588 dL_law_32 (by omega) (by omega) (by rw [cs]; rfl) (by decide) (lc_below hI (by omega) (by omega) hN (by omega) (by omega) (by omega) next)
    · exact l_tableIn 621 dL_law_32 (by omega) (by omega) (by rw [cs]; rfl) (by decide) (lc_first hI (by omega) (by omega) hN (by omega) (by omega) (by omega) next)
    · exact l_tableIn 684 dL_law_32 (by omega) (by omega) (by rw [cs]; rfl) (by decide) (lc_heap hI (by omega) (by omega) hN (by omega) (by omega) (by omega) next)
    · exact l_tableIn 718 dL_law_32 (by omega) (by omega) (by rw [cs]; rfl) (by decide) (lc_wait hI (by omega) (by omega) hN (by omega) (by omega) (by omega) next)
    · exact l_tableIn 751 dL_law_32 (by omega) (by omega) (by rw [cs]; rfl) (by decide) (lc_come hI (by omega) (by omega) hN (by omega) (by omega) (by omega) next)
    · exact l_tableIn 774 dL_law_32 (by omega) (by omega) (by rw [cs]; rfl) (by decide) (lc_hardest hI (by omega) (by omega) hN (by omega) (by omega) (by omega) next)
    · exact l_tableIn 807 dL_law_32 (by omega) (by omega) (by rw [cs]; rfl) (by decide) (lc_stop hI (by omega) (by omega) hN (by omega) (by omega) (by omega) next)
    · exact l_tableIn 820 dL_law_32 (by omega) (by omega) (by rw [cs]; rfl) (by decide) (lc_serve hI (by omega) (by omega) hN (by omega) (by omega) (by omega) next)
    · exact l_tableIn 843 dL_law_32 (by omega) (by omega) (by rw [cs]; rfl) (by decide) (lc_moved hI (by omega) (by omega) hN (by omega) (by omega) (by omega) next)
    · exact l_tableIn 877 dL_law_32 (by omega) (by omega) (by rw [cs]; rfl) (by decide) (lc_late hI (by omega) (by omega) hN (by omega) (by omega) (by omega) next)
    · exact l_tableIn 900 dL_law_32 (by omega) (by omega) (by rw [cs]; rfl) (by decide) (lc_mostHeld hI (by omega) (by omega) hN (by omega) (by omega) (by omega) next)
    · exact l_tableIn 914 dL_law_32 (by omega) (by omega) (by rw [cs]; rfl) (by decide) (lc_mostLate hI (by omega) (by omega) hN (by omega) (by omega) (by omega) next)
    · exact l_tableIn 927 dL_law_32 (by omega) (by omega) (by rw [cs]; rfl) (by decide) (lc_keeps hI (by omega) (by omega) hN (by omega) (by omega) (by omega) next)
    · exact l_tableIn 950 dL_law_32 (by omega) (by omega) (by rw [cs]; rfl) (by decide) (lc_count hI (by omega) (by omega) hN (by omega) (by omega) (by omega) next)
    · exact l_tableIn 973 dL_law_32 (by omega) (by omega) (by rw [cs]; rfl) (by decide) (lc_trace hI (by omega) (by omega) hN (by omega) (by omega) (by omega) next)
    · exact l_tableIn 996 dL_law_32 (by omega) (by omega) (by rw [cs]; rfl) (by decide) (lc_status hI (by omega) (by omega) hN (by omega) (by omega) (by omega) next)
    · exact l_tableIn 1009 dL_law_32 (by omega) (by omega) (by rw [cs]; rfl) (by decide) (lc_clear hI (by omega) (by omega) hN (by omega) (by omega) (by omega) next)
    · exact l_tableOut 1022 dL_law_32 cs (by decide) (EL.wide (by omega) (by omega) (next _ hI.mono))
set_option maxHeartbeats 4000000 in
theorem lw_body {Z : aZ} {G : aG} (hN : Z.2.1 ≤ 2048) : EL Z G mL_law 10 1045 157302 qT 0 [(0, vA Z.1)] [] (fun _ => none) 0 0 := by
  refine l_newN 10 dL_law_0 nw_L_7 rfl (by omega) (by omega) (fun x n_x l_x => ?_)
  refine l_dup dL_law_3 rfl ?_
  refine l_callI [] dL_law_4 ki_L_9 rfl rfl (by omega) (Nat.le_of_ble_eq_true rfl) (by omega) (by omega) (k_X9_init (d := 9) (by omega) (hset_eq _ _ _)) (fun r1 h1 q1 => ?_)
  obtain ⟨rfl, hX⟩ := q1
  show EL Z G mL_law 10 1045 157302 qT _ [(0, vA Z.1)] [vA x] _ _ _
  refine l_astore_n (L' := [(1, vA x), (0, vA Z.1)]) dL_law_7 rfl (Nat.le_of_ble_eq_true rfl) rfl ?_
  refine l_newN 15 dL_law_8 nw_L_10 rfl (by omega) (by omega) (fun m n_m l_m => ?_)
  refine l_dup dL_law_11 rfl ?_
  refine l_callI [] dL_law_12 ki_L_12 rfl rfl (by omega) (Nat.le_of_ble_eq_true rfl) (by omega) (by omega) (k_X10_init (d := 9) (by omega) (hset_eq _ _ _)) (fun r2 h2 q2 => ?_)
  obtain ⟨rfl, hM⟩ := q2
  show EL Z G mL_law 10 1045 157302 qT _ [(1, vA x), (0, vA Z.1)] [vA m] _ _ _
  refine l_astore_n (L' := [(2, vA m), (1, vA x), (0, vA Z.1)]) dL_law_15 rfl (Nat.le_of_ble_eq_true rfl) rfl ?_
  refine l_iconst dL_law_16 (okI_c rfl) ?_
  refine l_istore_n (L' := [(3, vI 0), (2, vA m), (1, vA x), (0, vA Z.1)]) dL_law_17 rfl (Nat.le_of_ble_eq_true rfl) rfl ?_
  obtain ⟨ac, ar, rr, cr, ta, tm, mk, md, on, ot, b1, b2, b3, b4, b5, b6, b7, b8, b9, hi, hC, hM⟩ := begin_both hX l_m hM
  refine EL.pick [3, 2, 1, 0] rfl ?_
  exact lw_loop (x := x) (m := m) hN (Z.2.1 + 1) 0 _ _ _ (by omega) (by omega) (by omega) (by omega) ⟨_, _, _, _, _, _, _, _, _, _, _, _, _, _, _, _, _, _, _, _, _, _, hC, hM, sok_0⟩
