/-! ===== FlowCurvesModel: the constructor ===== -/
set_option maxRecDepth 100000 in
set_option maxHeartbeats 4000000 in
theorem k_X10_init {G : aG} {d : Nat} (hd : 3 ≤ d) {h : aH} {m : Nat} (hm : h m = some (eO 9 [vI 0, vN, vN, vN, vN, vN, vI 0, vN, vI 0, vN, vI 0, vI 0, vN, vI 0, vN])) : MC G mX10_init d 9 19365 [vA m] h (fun r' h' => r' = none ∧ ∃ b1 b2 b3 b4 b5 b6 b7 b8 b9 : Nat, (m < b1 ∧ b1 < b2 ∧ b2 < b3 ∧ b3 < b4 ∧ b4 < b5 ∧ b5 < b6 ∧ b6 < b7 ∧ b7 < b8 ∧ b8 < b9) ∧ h' m = some (eO 9 [vI 0, vA b1, vA b2, vA b3, vA b4, vA b5, vI 0, vA b6, vI 0, vA b7, vI 0, vI ((-1)), vA b8, vI 0, vA b9]) ∧ h' b1 = some (eI 60 (fun _ => 0)) ∧ h' b2 = some (eI 60 (fun _ => 0)) ∧ h' b3 = some (eJ 60 (fun _ => 0)) ∧ h' b4 = some (eI 60 (fun _ => 0)) ∧ h' b5 = some (eJ 18000 (fun _ => 0)) ∧ h' b6 = some (eJ 300 (fun _ => 0)) ∧ h' b7 = some (eJ 60 (fun _ => 0)) ∧ h' b8 = some (eI 5 (fun _ => 0)) ∧ h' b9 = some (eJ 760 (fun _ => 0)) ∧ (∀ b : Nat, b ≠ m → (h b).isSome = true → h' b = h b) ∧ ∀ b : Nat, b9 < b → h' b = none) := by
  refine MC.of (by decide) (Nat.le_of_ble_eq_true rfl) (fun ok okh => ?_)
  show EX G mX10_init d 9 19365 _ 0 [(0, vA m)] [] h 0 0
  refine x_aload_n 0 dX10_init_0 rfl rfl ?_
  refine x_objInit dX10_init_1 ko_X10_1 (by omega) (Nat.le_of_ble_eq_true rfl) ?_
  refine x_aload_n 0 dX10_init_4 rfl rfl ?_
  refine x_bipush dX10_init_5 (okI_c rfl) (by decide +kernel) ?_
  refine x_newI dX10_init_7 (by omega) (by omega) (by omega) (by omega) (fun b1 n_b1 l_b1 => ?_)
  have o_b1 : m < b1 := l_b1 m (isSome_of hm)
  refine x_putF 1 dX10_init_9 rfl pu_X10_7 ((hset_ne _ _ (by omega)).trans hm) rfl rfl (Nat.le_of_ble_eq_true rfl) ?_
  refine x_aload_n 0 dX10_init_12 rfl rfl ?_
  refine x_bipush dX10_init_13 (okI_c rfl) (by decide +kernel) ?_
  refine x_newI dX10_init_15 (by omega) (by omega) (by omega) (by omega) (fun b2 n_b2 l_b2 => ?_)
  have o_b2 : b1 < b2 := l_b2 b1 (isSome_of ((hset_ne _ _ (by omega)).trans (hset_eq _ _ _)))
  refine x_putF 2 dX10_init_17 rfl pu_X10_13 ((hset_ne _ _ (by omega)).trans (hset_eq _ _ _)) rfl rfl (Nat.le_of_ble_eq_true rfl) ?_
  refine x_aload_n 0 dX10_init_20 rfl rfl ?_
  refine x_bipush dX10_init_21 (okI_c rfl) (by decide +kernel) ?_
  refine x_newJ dX10_init_23 (by omega) (by omega) (by omega) (by omega) (fun b3 n_b3 l_b3 => ?_)
  have o_b3 : b2 < b3 := l_b3 b2 (isSome_of ((hset_ne _ _ (by omega)).trans (hset_eq _ _ _)))
  refine x_putF 3 dX10_init_25 rfl pu_X10_16 ((hset_ne _ _ (by omega)).trans (hset_eq _ _ _)) rfl rfl (Nat.le_of_ble_eq_true rfl) ?_
  refine x_aload_n 0 dX10_init_28 rfl rfl ?_
  refine x_bipush dX10_init_29 (okI_c rfl) (by decide +kernel) ?_
  refine x_newI dX10_init_31 (by omega) (by omega) (by omega) (by omega) (fun b4 n_b4 l_b4 => ?_)
  have o_b4 : b3 < b4 := l_b4 b3 (isSome_of ((hset_ne _ _ (by omega)).trans (hset_eq _ _ _)))
  refine x_putF 4 dX10_init_33 rfl pu_X10_20 ((hset_ne _ _ (by omega)).trans (hset_eq _ _ _)) rfl rfl (Nat.le_of_ble_eq_true rfl) ?_
  refine x_aload_n 0 dX10_init_36 rfl rfl ?_
  refine x_sipush dX10_init_37 (okI_c rfl) (by decide +kernel) ?_
  refine x_newJ dX10_init_40 (by omega) (by omega) (by omega) (by omega) (fun b5 n_b5 l_b5 => ?_)
  have o_b5 : b4 < b5 := l_b5 b4 (isSome_of ((hset_ne _ _ (by omega)).trans (hset_eq _ _ _)))
  refine x_putF 5 dX10_init_42 rfl pu_X10_23 ((hset_ne _ _ (by omega)).trans (hset_eq _ _ _)) rfl rfl (Nat.le_of_ble_eq_true rfl) ?_
  refine x_aload_n 0 dX10_init_45 rfl rfl ?_
  refine x_sipush dX10_init_46 (okI_c rfl) (by decide +kernel) ?_
  refine x_newJ dX10_init_49 (by omega) (by omega) (by omega) (by omega) (fun b6 n_b6 l_b6 => ?_)
  have o_b6 : b5 < b6 := l_b6 b5 (isSome_of ((hset_ne _ _ (by omega)).trans (hset_eq _ _ _)))
  refine x_putF 7 dX10_init_51 rfl pu_X10_26 ((hset_ne _ _ (by omega)).trans (hset_eq _ _ _)) rfl rfl (Nat.le_of_ble_eq_true rfl) ?_
  refine x_aload_n 0 dX10_init_54 rfl rfl ?_
  refine x_bipush dX10_init_55 (okI_c rfl) (by decide +kernel) ?_
  refine x_newJ dX10_init_57 (by omega) (by omega) (by omega) (by omega) (fun b7 n_b7 l_b7 => ?_)
  have o_b7 : b6 < b7 := l_b7 b6 (isSome_of ((hset_ne _ _ (by omega)).trans (hset_eq _ _ _)))
  refine x_putF 9 dX10_init_59 rfl pu_X10_29 ((hset_ne _ _ (by omega)).trans (hset_eq _ _ _)) rfl rfl (Nat.le_of_ble_eq_true rfl) ?_
  refine x_aload_n 0 dX10_init_62 rfl rfl ?_
  refine x_iconst dX10_init_63 (okI_c rfl) ?_
  refine x_put 11 dX10_init_64 pu_X10_32 (hset_eq _ _ _) rfl rfl (Nat.le_of_ble_eq_true rfl) ?_
  refine x_aload_n 0 dX10_init_67 rfl rfl ?_
  refine x_iconst dX10_init_68 (okI_c rfl) ?_
  refine x_newI dX10_init_69 (by omega) (by omega) (by omega) (by omega) (fun b8 n_b8 l_b8 => ?_)
  have o_b8 : b7 < b8 := l_b8 b7 (isSome_of ((hset_ne _ _ (by omega)).trans ((hset_ne _ _ (by omega)).trans (hset_eq _ _ _))))
  refine x_putF 12 dX10_init_71 rfl pu_X10_36 ((hset_ne _ _ (by omega)).trans (hset_eq _ _ _)) rfl rfl (Nat.le_of_ble_eq_true rfl) ?_
  refine x_aload_n 0 dX10_init_74 rfl rfl ?_
  refine x_sipush dX10_init_75 (okI_c rfl) (by decide +kernel) ?_
  refine x_newJ dX10_init_78 (by omega) (by omega) (by omega) (by omega) (fun b9 n_b9 l_b9 => ?_)
  have o_b9 : b8 < b9 := l_b9 b8 (isSome_of ((hset_ne _ _ (by omega)).trans (hset_eq _ _ _)))
  refine x_putF 14 dX10_init_80 rfl pu_X10_39 ((hset_ne _ _ (by omega)).trans (hset_eq _ _ _)) rfl rfl (Nat.le_of_ble_eq_true rfl) ?_
  exact x_return dX10_init_83 rfl (by omega) (by omega) ⟨rfl, b1, b2, b3, b4, b5, b6, b7, b8, b9, ⟨o_b1, o_b2, o_b3, o_b4, o_b5, o_b6, o_b7, o_b8, o_b9⟩, (hset_eq _ _ _), ((hset_ne _ _ (by omega)).trans ((hset_ne _ _ (by omega)).trans ((hset_ne _ _ (by omega)).trans ((hset_ne _ _ (by omega)).trans ((hset_ne _ _ (by omega)).trans ((hset_ne _ _ (by omega)).trans ((hset_ne _ _ (by omega)).trans ((hset_ne _ _ (by omega)).trans ((hset_ne _ _ (by omega)).trans ((hset_ne _ _ (by omega)).trans ((hset_ne _ _ (by omega)).trans ((hset_ne _ _ (by omega)).trans ((hset_ne _ _ (by omega)).trans ((hset_ne _ _ (by omega)).trans ((hset_ne _ _ (by omega)).trans ((hset_ne _ _ (by omega)).trans ((hset_ne _ _ (by omega)).trans ((hset_ne _ _ (by omega)).trans (hset_eq _ _ _))))))))))))))))))), ((hset_ne _ _ (by omega)).trans ((hset_ne _ _ (by omega)).trans ((hset_ne _ _ (by omega)).trans ((hset_ne _ _ (by omega)).trans ((hset_ne _ _ (by omega)).trans ((hset_ne _ _ (by omega)).trans ((hset_ne _ _ (by omega)).trans ((hset_ne _ _ (by omega)).trans ((hset_ne _ _ (by omega)).trans ((hset_ne _ _ (by omega)).trans ((hset_ne _ _ (by omega)).trans ((hset_ne _ _ (by omega)).trans ((hset_ne _ _ (by omega)).trans ((hset_ne _ _ (by omega)).trans ((hset_ne _ _ (by omega)).trans ((hset_ne _ _ (by omega)).trans (hset_eq _ _ _))))))))))))))))), ((hset_ne _ _ (by omega)).trans ((hset_ne _ _ (by omega)).trans ((hset_ne _ _ (by omega)).trans ((hset_ne _ _ (by omega)).trans ((hset_ne _ _ (by omega)).trans ((hset_ne _ _ (by omega)).trans ((hset_ne _ _ (by omega)).trans ((hset_ne _ _ (by omega)).trans ((hset_ne _ _ (by omega)).trans ((hset_ne _ _ (by omega)).trans ((hset_ne _ _ (by omega)).trans ((hset_ne _ _ (by omega)).trans ((hset_ne _ _ (by omega)).trans ((hset_ne _ _ (by omega)).trans (hset_eq _ _ _))))))))))))))), ((hset_ne _ _ (by omega)).trans ((hset_ne _ _ (by omega)).trans ((hset_ne _ _ (by omega)).trans ((hset_ne _ _ (by omega)).trans ((hset_ne _ _ (by omega)).trans ((hset_ne _ _ (by omega)).trans ((hset_ne _ _ (by omega)).trans ((hset_ne _ _ (by omega)).trans ((hset_ne _ _ (by omega)).trans ((hset_ne _ _ (by omega)).trans ((hset_ne _ _ (by omega)).trans ((hset_ne _ _ (by omega)).trans (hset_eq _ _ _))))))))))))), ((hset_ne _ _ (by omega)).trans ((hset_ne _ _ (by omega)).trans ((hset_ne _ _ (by omega)).trans ((hset_ne _ _ (by omega)).trans ((hset_ne _ _ (by omega)).trans ((hset_ne _ _ (by omega)).trans ((hset_ne _ _ (by omega)).trans ((hset_ne _ _ (by omega)).trans ((hset_ne _ _ (by omega)).trans ((hset_ne _ _ (by omega)).trans (hset_eq _ _ _))))))))))), ((hset_ne _ _ (by omega)).trans ((hset_ne _ _ (by omega)).trans ((hset_ne _ _ (by omega)).trans ((hset_ne _ _ (by omega)).trans ((hset_ne _ _ (by omega)).trans ((hset_ne _ _ (by omega)).trans ((hset_ne _ _ (by omega)).trans ((hset_ne _ _ (by omega)).trans (hset_eq _ _ _))))))))), ((hset_ne _ _ (by omega)).trans ((hset_ne _ _ (by omega)).trans ((hset_ne _ _ (by omega)).trans ((hset_ne _ _ (by omega)).trans ((hset_ne _ _ (by omega)).trans ((hset_ne _ _ (by omega)).trans (hset_eq _ _ _))))))), ((hset_ne _ _ (by omega)).trans ((hset_ne _ _ (by omega)).trans ((hset_ne _ _ (by omega)).trans (hset_eq _ _ _)))), ((hset_ne _ _ (by omega)).trans (hset_eq _ _ _)), fun b hb hs => by have z := l_b1 b hs; rw [hset_ne _ _ (by omega)]; rw [hset_ne _ _ (by omega)]; rw [hset_ne _ _ (by omega)]; rw [hset_ne _ _ (by omega)]; rw [hset_ne _ _ (by omega)]; rw [hset_ne _ _ (by omega)]; rw [hset_ne _ _ (by omega)]; rw [hset_ne _ _ (by omega)]; rw [hset_ne _ _ (by omega)]; rw [hset_ne _ _ (by omega)]; rw [hset_ne _ _ (by omega)]; rw [hset_ne _ _ (by omega)]; rw [hset_ne _ _ (by omega)]; rw [hset_ne _ _ (by omega)]; rw [hset_ne _ _ (by omega)]; rw [hset_ne _ _ (by omega)]; rw [hset_ne _ _ (by omega)]; rw [hset_ne _ _ (by omega)]; rw [hset_ne _ _ (by omega)], fun b hb => by
        rcases hq : (h b) with _ | v
        · rw [hset_ne _ _ (by omega)]; rw [hset_ne _ _ (by omega)]; rw [hset_ne _ _ (by omega)]; rw [hset_ne _ _ (by omega)]; rw [hset_ne _ _ (by omega)]; rw [hset_ne _ _ (by omega)]; rw [hset_ne _ _ (by omega)]; rw [hset_ne _ _ (by omega)]; rw [hset_ne _ _ (by omega)]; rw [hset_ne _ _ (by omega)]; rw [hset_ne _ _ (by omega)]; rw [hset_ne _ _ (by omega)]; rw [hset_ne _ _ (by omega)]; rw [hset_ne _ _ (by omega)]; rw [hset_ne _ _ (by omega)]; rw [hset_ne _ _ (by omega)]; rw [hset_ne _ _ (by omega)]; rw [hset_ne _ _ (by omega)]; rw [hset_ne _ _ (by omega)]; exact hq
        · exfalso; have z := l_b1 b (by rw [hq]; rfl); omega⟩
