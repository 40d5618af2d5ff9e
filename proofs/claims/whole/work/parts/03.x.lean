/-! ===== the rows of EX, an instruction each ===== -/
section XR
variable {G : aG} {X : aM} {d mc ms : Nat} {Q : Option aV → aH → Prop} {pc : Nat} {L L' : List (Nat × aV)} {st : List aV} {h : aH} {kc ks : Nat}
theorem ok_c {v : aV} {st : List aV} (hv : okV v) (h : ∀ u ∈ st, okV u) : ∀ u ∈ v :: st, okV u := List.forall_mem_cons.mpr ⟨hv, h⟩
theorem ok_h {v : aV} {st : List aV} (h : ∀ u ∈ v :: st, okV u) : okV v := h v List.mem_cons_self
theorem ok_t {v : aV} {st : List aV} (h : ∀ u ∈ v :: st, okV u) : ∀ u ∈ st, okV u := fun u hu => h u (List.mem_cons_of_mem _ hu)
theorem ok_I {x : Int} {st : List aV} (h : ∀ u ∈ vI x :: st, okV u) : okI x := h (vI x) List.mem_cons_self
theorem ok_J {x : Int} {st : List aV} (h : ∀ u ∈ vJ x :: st, okV u) : okJ x := h (vJ x) List.mem_cons_self
def aDel1 (i : Nat) (L : List (Nat × aV)) : List (Nat × aV) := L.filter (fun q => !(q.1 == i) && !(q.1 + 1 == i && (match q.2 with | .inr (.inl _) => true | _ => false)))
def aDel2 (i : Nat) (L : List (Nat × aV)) : List (Nat × aV) := L.filter (fun q => !(q.1 == i) && (!(q.1 == i + 1) && !(q.1 + 1 == i && (match q.2 with | .inr (.inl _) => true | _ => false))))
theorem cv_cat (v : aV) : ((cv v).category == 2) = (match v with | .inr (.inl _) => true | _ => false) := by
  rcases v with x | x | r
  · rfl
  · rfl
  · show ((va_rf r).category == 2) = false
    rw [cv_cat_r]; rfl
theorem aDel1_cv (i : Nat) (L : List (Nat × aV)) : (L.map cvq).filter (fun q => !(q.1 == i) && !(q.1 + 1 == i && q.2.category == 2)) = (aDel1 i L).map cvq := by
  rw [aDel1, List.filter_map]
  congr 1
  apply List.filter_congr
  intro q _
  simp only [Function.comp, cvq, cv_cat]
theorem aDel2_cv (i : Nat) (L : List (Nat × aV)) : (L.map cvq).filter (fun q => !(q.1 == i) && (!(q.1 == i + 1) && !(q.1 + 1 == i && q.2.category == 2))) = (aDel2 i L).map cvq := by
  rw [aDel2, List.filter_map]
  congr 1
  apply List.filter_congr
  intro q _
  simp only [Function.comp, cvq, cv_cat]
theorem aDel1_ok {i : Nat} {L : List (Nat × aV)} {v : aV} (hv : okV v) (h : ∀ q ∈ L, okV q.2) : ∀ q ∈ (i, v) :: aDel1 i L, okV q.2 := by
  intro q hq
  rcases List.mem_cons.mp hq with rfl | hq
  · exact hv
  · exact h q (List.mem_filter.mp hq).1
theorem aDel2_ok {i : Nat} {L : List (Nat × aV)} {v : aV} (hv : okV v) (h : ∀ q ∈ L, okV q.2) : ∀ q ∈ (i, v) :: aDel2 i L, okV q.2 := by
  intro q hq
  rcases List.mem_cons.mp hq with rfl | hq
  · exact hv
  · exact h q (List.mem_filter.mp hq).1
theorem EX.pick (ks' : List Nat) (hL : ks'.filterMap (fun k => L[k]?) = L') (k : EX G X d mc ms Q pc L' st h kc ks) : EX G X d mc ms Q pc L st h kc ks := by
  refine k.drop fun q hq => ?_
  rw [← hL] at hq
  obtain ⟨i, -, hi⟩ := List.mem_filterMap.mp hq
  exact List.mem_of_getElem? hi

theorem x_iconst {n : Int} (hd : decode X.2.1 pc = .ok (.iconst n, 1)) (hn : okI n) (k : EX G X d mc ms Q (pc + 1) L (vI n :: st) h kc ks) : EX G X d mc ms Q pc L st h kc ks := by
  intro p e s m args below meth c A H ls locs C hA w hS ho h1 h2 hl
  exact lv_iconst C.1 C.2.1 hd rfl (k p e s m args below meth c A H ls locs C hA w hS ho (ok_c hn h1) h2 hl)
theorem x_bipush {n : Int} (hd : decode X.2.1 pc = .ok (.bipush n, 2)) (hn : okI n) (hv : (Int8.ofInt n).toInt32 = Int32.ofInt n) (k : EX G X d mc ms Q (pc + 2) L (vI n :: st) h kc ks) : EX G X d mc ms Q pc L st h kc ks := by
  intro p e s m args below meth c A H ls locs C hA w hS ho h1 h2 hl
  exact lv_bipush C.1 C.2.1 hd hv (k p e s m args below meth c A H ls locs C hA w hS ho (ok_c hn h1) h2 hl)
theorem x_sipush {n : Int} (hd : decode X.2.1 pc = .ok (.sipush n, 3)) (hn : okI n) (hv : (Int16.ofInt n).toInt32 = Int32.ofInt n) (k : EX G X d mc ms Q (pc + 3) L (vI n :: st) h kc ks) : EX G X d mc ms Q pc L st h kc ks := by
  intro p e s m args below meth c A H ls locs C hA w hS ho h1 h2 hl
  exact lv_sipush C.1 C.2.1 hd hv (k p e s m args below meth c A H ls locs C hA w hS ho (ok_c hn h1) h2 hl)
theorem x_lconst {n : Fin 2} {x : Int} (hd : decode X.2.1 pc = .ok (.lconst n, 1)) (hn : okJ x) (hv : Int64.ofNat (n : Nat) = Int64.ofInt x) (k : EX G X d mc ms Q (pc + 1) L (vJ x :: st) h kc ks) : EX G X d mc ms Q pc L st h kc ks := by
  intro p e s m args below meth c A H ls locs C hA w hS ho h1 h2 hl
  exact lv_lconst C.1 C.2.1 hd hv (k p e s m args below meth c A H ls locs C hA w hS ho (ok_c hn h1) h2 hl)
theorem x_ldc {n : Int} {idx : Nat} (hd : decode X.2.1 pc = .ok (.ldc idx, 2)) (hn : okI n) (hc : Cond.constant X.1.cls idx (Int32.ofInt n) ∈ lw_ok) (k : EX G X d mc ms Q (pc + 2) L (vI n :: st) h kc ks) : EX G X d mc ms Q pc L st h kc ks := by
  intro p e s m args below meth c A H ls locs C hA w hS ho h1 h2 hl
  exact lv_ldc C.1 C.2.1 C.2.2.2.2.1 (C.2.2.2.2.2.1 _ hc) hd (k p e s m args below meth c A H ls locs C hA w hS ho (ok_c hn h1) h2 hl)
theorem x_ldc2 {n : Int} {idx : Nat} (hd : decode X.2.1 pc = .ok (.ldc2_w idx, 3)) (hn : okJ n) (hc : Cond.constantLong X.1.cls idx (Int64.ofInt n) ∈ lw_ok) (k : EX G X d mc ms Q (pc + 3) L (vJ n :: st) h kc ks) : EX G X d mc ms Q pc L st h kc ks := by
  intro p e s m args below meth c A H ls locs C hA w hS ho h1 h2 hl
  exact lv_ldc2 C.1 C.2.1 C.2.2.2.2.1 (C.2.2.2.2.2.1 _ hc) hd (k p e s m args below meth c A H ls locs C hA w hS ho (ok_c hn h1) h2 hl)
theorem x_null  (hd : decode X.2.1 pc = .ok (.aconst_null, 1)) (k : EX G X d mc ms Q (pc + 1) L (vN :: st) h kc ks) : EX G X d mc ms Q pc L st h kc ks := by
  intro p e s m args below meth c A H ls locs C hA w hS ho h1 h2 hl
  exact lv_null C.1 C.2.1 hd (k p e s m args below meth c A H ls locs C hA w hS ho (ok_c trivial h1) h2 hl)
theorem x_iload {x : Int} {i : Nat} (j : Nat) (hd : decode X.2.1 pc = .ok (.iload i, 2)) (hq : L[j]? = some (i, vI x)) (k : EX G X d mc ms Q (pc + 2) L (vI x :: st) h kc ks) : EX G X d mc ms Q pc L st h kc ks := by
  intro p e s m args below meth c A H ls locs C hA w hS ho h1 h2 hl
  exact lv_iload C.1 C.2.1 hd (hl.2.2 _ (List.mem_map.mpr ⟨_, List.mem_of_getElem? hq, rfl⟩)) (k p e s m args below meth c A H ls locs C hA w hS ho (ok_c (h2 _ (List.mem_of_getElem? hq)) h1) h2 hl)
theorem x_iload_n {x : Int} {i : Nat} {f : Fin 4} (j : Nat) (hd : decode X.2.1 pc = .ok (.iload_n f, 1)) (hi : (f : Nat) = i) (hq : L[j]? = some (i, vI x)) (k : EX G X d mc ms Q (pc + 1) L (vI x :: st) h kc ks) : EX G X d mc ms Q pc L st h kc ks := by
  intro p e s m args below meth c A H ls locs C hA w hS ho h1 h2 hl
  exact lv_iload_n C.1 C.2.1 hd hi (hl.2.2 _ (List.mem_map.mpr ⟨_, List.mem_of_getElem? hq, rfl⟩)) (k p e s m args below meth c A H ls locs C hA w hS ho (ok_c (h2 _ (List.mem_of_getElem? hq)) h1) h2 hl)
theorem x_lload {x : Int} {i : Nat} (j : Nat) (hd : decode X.2.1 pc = .ok (.lload i, 2)) (hq : L[j]? = some (i, vJ x)) (k : EX G X d mc ms Q (pc + 2) L (vJ x :: st) h kc ks) : EX G X d mc ms Q pc L st h kc ks := by
  intro p e s m args below meth c A H ls locs C hA w hS ho h1 h2 hl
  exact lv_lload C.1 C.2.1 hd (hl.2.2 _ (List.mem_map.mpr ⟨_, List.mem_of_getElem? hq, rfl⟩)) (k p e s m args below meth c A H ls locs C hA w hS ho (ok_c (h2 _ (List.mem_of_getElem? hq)) h1) h2 hl)
theorem x_lload_n {x : Int} {i : Nat} {f : Fin 4} (j : Nat) (hd : decode X.2.1 pc = .ok (.lload_n f, 1)) (hi : (f : Nat) = i) (hq : L[j]? = some (i, vJ x)) (k : EX G X d mc ms Q (pc + 1) L (vJ x :: st) h kc ks) : EX G X d mc ms Q pc L st h kc ks := by
  intro p e s m args below meth c A H ls locs C hA w hS ho h1 h2 hl
  exact lv_lload_n C.1 C.2.1 hd hi (hl.2.2 _ (List.mem_map.mpr ⟨_, List.mem_of_getElem? hq, rfl⟩)) (k p e s m args below meth c A H ls locs C hA w hS ho (ok_c (h2 _ (List.mem_of_getElem? hq)) h1) h2 hl)
theorem x_aload {x : Nat} {i : Nat} (j : Nat) (hd : decode X.2.1 pc = .ok (.aload i, 2)) (hq : L[j]? = some (i, vA x)) (k : EX G X d mc ms Q (pc + 2) L (vA x :: st) h kc ks) : EX G X d mc ms Q pc L st h kc ks := by
  intro p e s m args below meth c A H ls locs C hA w hS ho h1 h2 hl
  exact lv_aload C.1 C.2.1 hd (hl.2.2 _ (List.mem_map.mpr ⟨_, List.mem_of_getElem? hq, rfl⟩)) (k p e s m args below meth c A H ls locs C hA w hS ho (ok_c (h2 _ (List.mem_of_getElem? hq)) h1) h2 hl)
theorem x_aload_n {x : Nat} {i : Nat} {f : Fin 4} (j : Nat) (hd : decode X.2.1 pc = .ok (.aload_n f, 1)) (hi : (f : Nat) = i) (hq : L[j]? = some (i, vA x)) (k : EX G X d mc ms Q (pc + 1) L (vA x :: st) h kc ks) : EX G X d mc ms Q pc L st h kc ks := by
  intro p e s m args below meth c A H ls locs C hA w hS ho h1 h2 hl
  exact lv_aload_n C.1 C.2.1 hd hi (hl.2.2 _ (List.mem_map.mpr ⟨_, List.mem_of_getElem? hq, rfl⟩)) (k p e s m args below meth c A H ls locs C hA w hS ho (ok_c (h2 _ (List.mem_of_getElem? hq)) h1) h2 hl)
theorem x_aloadr {r : Option Nat} {i : Nat} (j : Nat) (hd : decode X.2.1 pc = .ok (.aload i, 2)) (hq : L[j]? = some (i, vR r)) (k : EX G X d mc ms Q (pc + 2) L (vR r :: st) h kc ks) : EX G X d mc ms Q pc L st h kc ks := by
  intro p e s m args below meth c A H ls locs C hA w hS ho h1 h2 hl
  cases r with
  | none => exact lv_aloadN C.1 C.2.1 hd (hl.2.2 _ (List.mem_map.mpr ⟨_, List.mem_of_getElem? hq, rfl⟩)) (k p e s m args below meth c A H ls locs C hA w hS ho (ok_c (h2 _ (List.mem_of_getElem? hq)) h1) h2 hl)
  | some a => exact lv_aload C.1 C.2.1 hd (hl.2.2 _ (List.mem_map.mpr ⟨_, List.mem_of_getElem? hq, rfl⟩)) (k p e s m args below meth c A H ls locs C hA w hS ho (ok_c (h2 _ (List.mem_of_getElem? hq)) h1) h2 hl)
theorem x_aloadr_n {r : Option Nat} {i : Nat} {f : Fin 4} (j : Nat) (hd : decode X.2.1 pc = .ok (.aload_n f, 1)) (hi : (f : Nat) = i) (hq : L[j]? = some (i, vR r)) (k : EX G X d mc ms Q (pc + 1) L (vR r :: st) h kc ks) : EX G X d mc ms Q pc L st h kc ks := by
  intro p e s m args below meth c A H ls locs C hA w hS ho h1 h2 hl
  cases r with
  | none => exact lv_aload_nN C.1 C.2.1 hd hi (hl.2.2 _ (List.mem_map.mpr ⟨_, List.mem_of_getElem? hq, rfl⟩)) (k p e s m args below meth c A H ls locs C hA w hS ho (ok_c (h2 _ (List.mem_of_getElem? hq)) h1) h2 hl)
  | some a => exact lv_aload_n C.1 C.2.1 hd hi (hl.2.2 _ (List.mem_map.mpr ⟨_, List.mem_of_getElem? hq, rfl⟩)) (k p e s m args below meth c A H ls locs C hA w hS ho (ok_c (h2 _ (List.mem_of_getElem? hq)) h1) h2 hl)
theorem x_istore {x : Int} {i : Nat} (hd : decode X.2.1 pc = .ok (.istore i, 2)) (hn : i < X.2.2.1) (hL : (i, vI x) :: aDel1 i L = L') (k : EX G X d mc ms Q (pc + 2) L' st h kc ks) : EX G X d mc ms Q pc L (vI x :: st) h kc ks := by
  intro p e s m args below meth c A H ls locs C hA w hS ho h1 h2 hl
  refine lv_istore C.1 C.2.1 hd hl hn (lv' := (L').map cvq) ?_ fun ls' hl' => ?_
  · rw [aDel1_cv, ← hL]; rfl
  · subst hL
    exact k p e s m args below meth c A H ls' locs C hA w hS ho (ok_t h1) (aDel1_ok (ok_h h1) h2) hl'
theorem x_istore_n {x : Int} {i : Nat} {f : Fin 4} (hd : decode X.2.1 pc = .ok (.istore_n f, 1)) (hi : (f : Nat) = i) (hn : i < X.2.2.1) (hL : (i, vI x) :: aDel1 i L = L') (k : EX G X d mc ms Q (pc + 1) L' st h kc ks) : EX G X d mc ms Q pc L (vI x :: st) h kc ks := by
  intro p e s m args below meth c A H ls locs C hA w hS ho h1 h2 hl
  refine lv_istore_n C.1 C.2.1 hd hi hl hn (lv' := (L').map cvq) ?_ fun ls' hl' => ?_
  · rw [aDel1_cv, ← hL]; rfl
  · subst hL
    exact k p e s m args below meth c A H ls' locs C hA w hS ho (ok_t h1) (aDel1_ok (ok_h h1) h2) hl'
theorem x_lstore {x : Int} {i : Nat} (hd : decode X.2.1 pc = .ok (.lstore i, 2)) (hn : i + 1 < X.2.2.1) (hL : (i, vJ x) :: aDel2 i L = L') (k : EX G X d mc ms Q (pc + 2) L' st h kc ks) : EX G X d mc ms Q pc L (vJ x :: st) h kc ks := by
  intro p e s m args below meth c A H ls locs C hA w hS ho h1 h2 hl
  refine lv_lstore C.1 C.2.1 hd hl hn (lv' := (L').map cvq) ?_ fun ls' hl' => ?_
  · rw [aDel2_cv, ← hL]; rfl
  · subst hL
    exact k p e s m args below meth c A H ls' locs C hA w hS ho (ok_t h1) (aDel2_ok (ok_h h1) h2) hl'
theorem x_lstore_n {x : Int} {i : Nat} {f : Fin 4} (hd : decode X.2.1 pc = .ok (.lstore_n f, 1)) (hi : (f : Nat) = i) (hn : i + 1 < X.2.2.1) (hL : (i, vJ x) :: aDel2 i L = L') (k : EX G X d mc ms Q (pc + 1) L' st h kc ks) : EX G X d mc ms Q pc L (vJ x :: st) h kc ks := by
  intro p e s m args below meth c A H ls locs C hA w hS ho h1 h2 hl
  refine lv_lstore_n C.1 C.2.1 hd hi hl hn (lv' := (L').map cvq) ?_ fun ls' hl' => ?_
  · rw [aDel2_cv, ← hL]; rfl
  · subst hL
    exact k p e s m args below meth c A H ls' locs C hA w hS ho (ok_t h1) (aDel2_ok (ok_h h1) h2) hl'
theorem x_astore {x : Nat} {i : Nat} (hd : decode X.2.1 pc = .ok (.astore i, 2)) (hn : i < X.2.2.1) (hL : (i, vA x) :: aDel1 i L = L') (k : EX G X d mc ms Q (pc + 2) L' st h kc ks) : EX G X d mc ms Q pc L (vA x :: st) h kc ks := by
  intro p e s m args below meth c A H ls locs C hA w hS ho h1 h2 hl
  refine lv_astore C.1 C.2.1 hd hl hn (lv' := (L').map cvq) ?_ fun ls' hl' => ?_
  · rw [aDel1_cv, ← hL]; rfl
  · subst hL
    exact k p e s m args below meth c A H ls' locs C hA w hS ho (ok_t h1) (aDel1_ok (ok_h h1) h2) hl'
theorem x_astore_n {x : Nat} {i : Nat} {f : Fin 4} (hd : decode X.2.1 pc = .ok (.astore_n f, 1)) (hi : (f : Nat) = i) (hn : i < X.2.2.1) (hL : (i, vA x) :: aDel1 i L = L') (k : EX G X d mc ms Q (pc + 1) L' st h kc ks) : EX G X d mc ms Q pc L (vA x :: st) h kc ks := by
  intro p e s m args below meth c A H ls locs C hA w hS ho h1 h2 hl
  refine lv_astore_n C.1 C.2.1 hd hi hl hn (lv' := (L').map cvq) ?_ fun ls' hl' => ?_
  · rw [aDel1_cv, ← hL]; rfl
  · subst hL
    exact k p e s m args below meth c A H ls' locs C hA w hS ho (ok_t h1) (aDel1_ok (ok_h h1) h2) hl'
theorem x_astorer {r : Option Nat} {i : Nat} (hd : decode X.2.1 pc = .ok (.astore i, 2)) (hn : i < X.2.2.1) (hL : (i, vR r) :: aDel1 i L = L') (k : EX G X d mc ms Q (pc + 2) L' st h kc ks) : EX G X d mc ms Q pc L (vR r :: st) h kc ks := by
  intro p e s m args below meth c A H ls locs C hA w hS ho h1 h2 hl
  cases r with
  | none =>
    refine lv_astoreN C.1 C.2.1 hd hl hn (lv' := (L').map cvq) ?_ fun ls' hl' => ?_
    · rw [aDel1_cv, ← hL]; rfl
    · subst hL
      exact k p e s m args below meth c A H ls' locs C hA w hS ho (ok_t h1) (aDel1_ok (ok_h h1) h2) hl'
  | some a =>
    refine lv_astore C.1 C.2.1 hd hl hn (lv' := (L').map cvq) ?_ fun ls' hl' => ?_
    · rw [aDel1_cv, ← hL]; rfl
    · subst hL
      exact k p e s m args below meth c A H ls' locs C hA w hS ho (ok_t h1) (aDel1_ok (ok_h h1) h2) hl' 
theorem x_astorer_n {r : Option Nat} {i : Nat} {f : Fin 4} (hd : decode X.2.1 pc = .ok (.astore_n f, 1)) (hi : (f : Nat) = i) (hn : i < X.2.2.1) (hL : (i, vR r) :: aDel1 i L = L') (k : EX G X d mc ms Q (pc + 1) L' st h kc ks) : EX G X d mc ms Q pc L (vR r :: st) h kc ks := by
  intro p e s m args below meth c A H ls locs C hA w hS ho h1 h2 hl
  cases r with
  | none =>
    refine lv_astore_nN C.1 C.2.1 hd hi hl hn (lv' := (L').map cvq) ?_ fun ls' hl' => ?_
    · rw [aDel1_cv, ← hL]; rfl
    · subst hL
      exact k p e s m args below meth c A H ls' locs C hA w hS ho (ok_t h1) (aDel1_ok (ok_h h1) h2) hl'
  | some a =>
    refine lv_astore_n C.1 C.2.1 hd hi hl hn (lv' := (L').map cvq) ?_ fun ls' hl' => ?_
    · rw [aDel1_cv, ← hL]; rfl
    · subst hL
      exact k p e s m args below meth c A H ls' locs C hA w hS ho (ok_t h1) (aDel1_ok (ok_h h1) h2) hl' 
theorem x_iinc {x n : Int} {i : Nat} (j : Nat) (hd : decode X.2.1 pc = .ok (.iinc i n, 3)) (hq : L[j]? = some (i, vI x)) (hx : okI (x + n)) (hn : i < X.2.2.1) (hL : (i, vI (x + n)) :: aDel1 i L = L') (k : EX G X d mc ms Q (pc + 3) L' st h kc ks) : EX G X d mc ms Q pc L st h kc ks := by
  intro p e s m args below meth c A H ls locs C hA w hS ho h1 h2 hl
  refine lv_iinc (k := j) (x := Int32.ofInt x) (v := Int32.ofInt (x + n)) C.1 C.2.1 hd hl ?_ (i32_add x n) hn (lv' := (L').map cvq) ?_ fun ls' hl' => ?_
  · rw [List.getElem?_map, hq]; rfl
  · rw [aDel1_cv, ← hL]; rfl
  · subst hL
    exact k p e s m args below meth c A H ls' locs C hA w hS ho h1 (aDel1_ok hx h2) hl' 
theorem x_iadd {x y : Int} (hd : decode X.2.1 pc = .ok (.iadd, 1)) (hv : okI (x + y)) (k : EX G X d mc ms Q (pc + 1) L (vI (x + y) :: st) h kc ks) : EX G X d mc ms Q pc L (vI y :: vI x :: st) h kc ks := by
  intro p e s m args below meth c A H ls locs C hA w hS ho h1 h2 hl
  refine lv_iadd C.1 C.2.1 hd ?_
  rw [i32_add]
  exact k p e s m args below meth c A H ls locs C hA w hS ho (ok_c hv (ok_t (ok_t h1))) h2 hl
theorem x_iaddW {x y v : Int} (hd : decode X.2.1 pc = .ok (.iadd, 1)) (hv : okI v) (he : Int32.ofInt (x + y) = Int32.ofInt v) (k : EX G X d mc ms Q (pc + 1) L (vI v :: st) h kc ks) : EX G X d mc ms Q pc L (vI y :: vI x :: st) h kc ks := by
  intro p e s m args below meth c A H ls locs C hA w hS ho h1 h2 hl
  refine lv_iadd C.1 C.2.1 hd ?_
  rw [i32_add, he]
  exact k p e s m args below meth c A H ls locs C hA w hS ho (ok_c hv (ok_t (ok_t h1))) h2 hl
theorem x_isub {x y : Int} (hd : decode X.2.1 pc = .ok (.isub, 1)) (hv : okI (x - y)) (k : EX G X d mc ms Q (pc + 1) L (vI (x - y) :: st) h kc ks) : EX G X d mc ms Q pc L (vI y :: vI x :: st) h kc ks := by
  intro p e s m args below meth c A H ls locs C hA w hS ho h1 h2 hl
  refine lv_isub C.1 C.2.1 hd ?_
  rw [i32_sub]
  exact k p e s m args below meth c A H ls locs C hA w hS ho (ok_c hv (ok_t (ok_t h1))) h2 hl
theorem x_isubW {x y v : Int} (hd : decode X.2.1 pc = .ok (.isub, 1)) (hv : okI v) (he : Int32.ofInt (x - y) = Int32.ofInt v) (k : EX G X d mc ms Q (pc + 1) L (vI v :: st) h kc ks) : EX G X d mc ms Q pc L (vI y :: vI x :: st) h kc ks := by
  intro p e s m args below meth c A H ls locs C hA w hS ho h1 h2 hl
  refine lv_isub C.1 C.2.1 hd ?_
  rw [i32_sub, he]
  exact k p e s m args below meth c A H ls locs C hA w hS ho (ok_c hv (ok_t (ok_t h1))) h2 hl
theorem x_imul {x y : Int} (hd : decode X.2.1 pc = .ok (.imul, 1)) (hv : okI (x * y)) (k : EX G X d mc ms Q (pc + 1) L (vI (x * y) :: st) h kc ks) : EX G X d mc ms Q pc L (vI y :: vI x :: st) h kc ks := by
  intro p e s m args below meth c A H ls locs C hA w hS ho h1 h2 hl
  refine lv_imul C.1 C.2.1 hd ?_
  rw [i32_mul]
  exact k p e s m args below meth c A H ls locs C hA w hS ho (ok_c hv (ok_t (ok_t h1))) h2 hl
theorem x_imulW {x y v : Int} (hd : decode X.2.1 pc = .ok (.imul, 1)) (hv : okI v) (he : Int32.ofInt (x * y) = Int32.ofInt v) (k : EX G X d mc ms Q (pc + 1) L (vI v :: st) h kc ks) : EX G X d mc ms Q pc L (vI y :: vI x :: st) h kc ks := by
  intro p e s m args below meth c A H ls locs C hA w hS ho h1 h2 hl
  refine lv_imul C.1 C.2.1 hd ?_
  rw [i32_mul, he]
  exact k p e s m args below meth c A H ls locs C hA w hS ho (ok_c hv (ok_t (ok_t h1))) h2 hl
theorem x_ladd {x y : Int} (hd : decode X.2.1 pc = .ok (.ladd, 1)) (hv : okJ (x + y)) (k : EX G X d mc ms Q (pc + 1) L (vJ (x + y) :: st) h kc ks) : EX G X d mc ms Q pc L (vJ y :: vJ x :: st) h kc ks := by
  intro p e s m args below meth c A H ls locs C hA w hS ho h1 h2 hl
  refine lv_ladd C.1 C.2.1 hd ?_
  rw [i64_add]
  exact k p e s m args below meth c A H ls locs C hA w hS ho (ok_c hv (ok_t (ok_t h1))) h2 hl
theorem x_laddW {x y v : Int} (hd : decode X.2.1 pc = .ok (.ladd, 1)) (hv : okJ v) (he : Int64.ofInt (x + y) = Int64.ofInt v) (k : EX G X d mc ms Q (pc + 1) L (vJ v :: st) h kc ks) : EX G X d mc ms Q pc L (vJ y :: vJ x :: st) h kc ks := by
  intro p e s m args below meth c A H ls locs C hA w hS ho h1 h2 hl
  refine lv_ladd C.1 C.2.1 hd ?_
  rw [i64_add, he]
  exact k p e s m args below meth c A H ls locs C hA w hS ho (ok_c hv (ok_t (ok_t h1))) h2 hl
theorem x_lsub {x y : Int} (hd : decode X.2.1 pc = .ok (.lsub, 1)) (hv : okJ (x - y)) (k : EX G X d mc ms Q (pc + 1) L (vJ (x - y) :: st) h kc ks) : EX G X d mc ms Q pc L (vJ y :: vJ x :: st) h kc ks := by
  intro p e s m args below meth c A H ls locs C hA w hS ho h1 h2 hl
  refine lv_lsub C.1 C.2.1 hd ?_
  rw [i64_sub]
  exact k p e s m args below meth c A H ls locs C hA w hS ho (ok_c hv (ok_t (ok_t h1))) h2 hl
theorem x_lsubW {x y v : Int} (hd : decode X.2.1 pc = .ok (.lsub, 1)) (hv : okJ v) (he : Int64.ofInt (x - y) = Int64.ofInt v) (k : EX G X d mc ms Q (pc + 1) L (vJ v :: st) h kc ks) : EX G X d mc ms Q pc L (vJ y :: vJ x :: st) h kc ks := by
  intro p e s m args below meth c A H ls locs C hA w hS ho h1 h2 hl
  refine lv_lsub C.1 C.2.1 hd ?_
  rw [i64_sub, he]
  exact k p e s m args below meth c A H ls locs C hA w hS ho (ok_c hv (ok_t (ok_t h1))) h2 hl
theorem x_lmul {x y : Int} (hd : decode X.2.1 pc = .ok (.lmul, 1)) (hv : okJ (x * y)) (k : EX G X d mc ms Q (pc + 1) L (vJ (x * y) :: st) h kc ks) : EX G X d mc ms Q pc L (vJ y :: vJ x :: st) h kc ks := by
  intro p e s m args below meth c A H ls locs C hA w hS ho h1 h2 hl
  refine lv_lmul C.1 C.2.1 hd ?_
  rw [i64_mul]
  exact k p e s m args below meth c A H ls locs C hA w hS ho (ok_c hv (ok_t (ok_t h1))) h2 hl
theorem x_lmulW {x y v : Int} (hd : decode X.2.1 pc = .ok (.lmul, 1)) (hv : okJ v) (he : Int64.ofInt (x * y) = Int64.ofInt v) (k : EX G X d mc ms Q (pc + 1) L (vJ v :: st) h kc ks) : EX G X d mc ms Q pc L (vJ y :: vJ x :: st) h kc ks := by
  intro p e s m args below meth c A H ls locs C hA w hS ho h1 h2 hl
  refine lv_lmul C.1 C.2.1 hd ?_
  rw [i64_mul, he]
  exact k p e s m args below meth c A H ls locs C hA w hS ho (ok_c hv (ok_t (ok_t h1))) h2 hl
theorem x_idiv {x y : Int} (hd : decode X.2.1 pc = .ok (.idiv, 1)) (hx : 0 ≤ x) (hy : 0 < y) (k : EX G X d mc ms Q (pc + 1) L (vI (x / y) :: st) h kc ks) : EX G X d mc ms Q pc L (vI y :: vI x :: st) h kc ks := by
  intro p e s m args below meth c A H ls locs C hA w hS ho h1 h2 hl
  have oy := ok_I h1
  have ox := ok_I (ok_t h1)
  refine lv_idiv C.1 C.2.1 hd ?_ ?_
  · intro q
    have := (i32_eq oy okI_0).mp q
    omega
  · rw [i32_div ox oy hx hy]
    have hv : okI (x / y) := by
      have e1 : 0 ≤ x / y := Int.ediv_nonneg hx (by omega)
      have e2 : x / y ≤ x := Int.ediv_le_self _ hx
      have e3 : 0 ≤ x % y := Int.emod_nonneg _ (by omega)
      have e4 : x % y < y := Int.emod_lt_of_pos _ hy
      unfold okI at *
      omega
    exact k p e s m args below meth c A H ls locs C hA w hS ho (ok_c hv (ok_t (ok_t h1))) h2 hl
theorem x_irem {x y : Int} (hd : decode X.2.1 pc = .ok (.irem, 1)) (hx : 0 ≤ x) (hy : 0 < y) (k : EX G X d mc ms Q (pc + 1) L (vI (x % y) :: st) h kc ks) : EX G X d mc ms Q pc L (vI y :: vI x :: st) h kc ks := by
  intro p e s m args below meth c A H ls locs C hA w hS ho h1 h2 hl
  have oy := ok_I h1
  have ox := ok_I (ok_t h1)
  refine lv_irem C.1 C.2.1 hd ?_ ?_
  · intro q
    have := (i32_eq oy okI_0).mp q
    omega
  · rw [i32_rem ox oy hx hy]
    have hv : okI (x % y) := by
      have e1 : 0 ≤ x / y := Int.ediv_nonneg hx (by omega)
      have e2 : x / y ≤ x := Int.ediv_le_self _ hx
      have e3 : 0 ≤ x % y := Int.emod_nonneg _ (by omega)
      have e4 : x % y < y := Int.emod_lt_of_pos _ hy
      unfold okI at *
      omega
    exact k p e s m args below meth c A H ls locs C hA w hS ho (ok_c hv (ok_t (ok_t h1))) h2 hl
theorem x_ldiv {x y : Int} (hd : decode X.2.1 pc = .ok (.ldiv, 1)) (hx : 0 ≤ x) (hy : 0 < y) (k : EX G X d mc ms Q (pc + 1) L (vJ (x / y) :: st) h kc ks) : EX G X d mc ms Q pc L (vJ y :: vJ x :: st) h kc ks := by
  intro p e s m args below meth c A H ls locs C hA w hS ho h1 h2 hl
  have oy := ok_J h1
  have ox := ok_J (ok_t h1)
  refine lv_ldiv C.1 C.2.1 hd ?_ ?_
  · intro q
    have := (i64_eq oy okJ_0).mp q
    omega
  · rw [i64_div ox oy hx hy]
    have hv : okJ (x / y) := by
      have e1 : 0 ≤ x / y := Int.ediv_nonneg hx (by omega)
      have e2 : x / y ≤ x := Int.ediv_le_self _ hx
      have e3 : 0 ≤ x % y := Int.emod_nonneg _ (by omega)
      have e4 : x % y < y := Int.emod_lt_of_pos _ hy
      unfold okJ at *
      omega
    exact k p e s m args below meth c A H ls locs C hA w hS ho (ok_c hv (ok_t (ok_t h1))) h2 hl
theorem x_lrem {x y : Int} (hd : decode X.2.1 pc = .ok (.lrem, 1)) (hx : 0 ≤ x) (hy : 0 < y) (k : EX G X d mc ms Q (pc + 1) L (vJ (x % y) :: st) h kc ks) : EX G X d mc ms Q pc L (vJ y :: vJ x :: st) h kc ks := by
  intro p e s m args below meth c A H ls locs C hA w hS ho h1 h2 hl
  have oy := ok_J h1
  have ox := ok_J (ok_t h1)
  refine lv_lrem C.1 C.2.1 hd ?_ ?_
  · intro q
    have := (i64_eq oy okJ_0).mp q
    omega
  · rw [i64_rem ox oy hx hy]
    have hv : okJ (x % y) := by
      have e1 : 0 ≤ x / y := Int.ediv_nonneg hx (by omega)
      have e2 : x / y ≤ x := Int.ediv_le_self _ hx
      have e3 : 0 ≤ x % y := Int.emod_nonneg _ (by omega)
      have e4 : x % y < y := Int.emod_lt_of_pos _ hy
      unfold okJ at *
      omega
    exact k p e s m args below meth c A H ls locs C hA w hS ho (ok_c hv (ok_t (ok_t h1))) h2 hl
theorem x_i2l {x : Int} (hd : decode X.2.1 pc = .ok (.i2l, 1)) (k : EX G X d mc ms Q (pc + 1) L (vJ x :: st) h kc ks) : EX G X d mc ms Q pc L (vI x :: st) h kc ks := by
  intro p e s m args below meth c A H ls locs C hA w hS ho h1 h2 hl
  exact lv_i2l C.1 C.2.1 hd (i32_i2l (ok_I h1)) (k p e s m args below meth c A H ls locs C hA w hS ho (ok_c (okJ_I (ok_I h1)) (ok_t h1)) h2 hl)
theorem x_l2i {x : Int} (hd : decode X.2.1 pc = .ok (.l2i, 1)) (hx : okI x) (k : EX G X d mc ms Q (pc + 1) L (vI x :: st) h kc ks) : EX G X d mc ms Q pc L (vJ x :: st) h kc ks := by
  intro p e s m args below meth c A H ls locs C hA w hS ho h1 h2 hl
  exact lv_l2i C.1 C.2.1 hd (i64_l2i hx) (k p e s m args below meth c A H ls locs C hA w hS ho (ok_c hx (ok_t h1)) h2 hl)
theorem x_iand {x y v : Int} (hd : decode X.2.1 pc = .ok (.iand, 1)) (hv : okI v) (he : Int32.ofInt x &&& Int32.ofInt y = Int32.ofInt v) (k : EX G X d mc ms Q (pc + 1) L (vI v :: st) h kc ks) : EX G X d mc ms Q pc L (vI y :: vI x :: st) h kc ks := by
  intro p e s m args below meth c A H ls locs C hA w hS ho h1 h2 hl
  refine lv_iand C.1 C.2.1 hd ?_
  rw [he]
  exact k p e s m args below meth c A H ls locs C hA w hS ho (ok_c hv (ok_t (ok_t h1))) h2 hl
theorem x_ishl {x y v : Int} (hd : decode X.2.1 pc = .ok (.ishl, 1)) (hv : okI v) (he : Int32.ofInt x <<< (Int32.ofInt y &&& 31) = Int32.ofInt v) (k : EX G X d mc ms Q (pc + 1) L (vI v :: st) h kc ks) : EX G X d mc ms Q pc L (vI y :: vI x :: st) h kc ks := by
  intro p e s m args below meth c A H ls locs C hA w hS ho h1 h2 hl
  refine lv_ishl C.1 C.2.1 hd ?_
  rw [he]
  exact k p e s m args below meth c A H ls locs C hA w hS ho (ok_c hv (ok_t (ok_t h1))) h2 hl
theorem x_ishr {x y v : Int} (hd : decode X.2.1 pc = .ok (.ishr, 1)) (hv : okI v) (he : Int32.ofInt x >>> (Int32.ofInt y &&& 31) = Int32.ofInt v) (k : EX G X d mc ms Q (pc + 1) L (vI v :: st) h kc ks) : EX G X d mc ms Q pc L (vI y :: vI x :: st) h kc ks := by
  intro p e s m args below meth c A H ls locs C hA w hS ho h1 h2 hl
  refine lv_ishr C.1 C.2.1 hd ?_
  rw [he]
  exact k p e s m args below meth c A H ls locs C hA w hS ho (ok_c hv (ok_t (ok_t h1))) h2 hl
theorem x_land {x y v : Int} (hd : decode X.2.1 pc = .ok (.land, 1)) (hv : okJ v) (he : Int64.ofInt x &&& Int64.ofInt y = Int64.ofInt v) (k : EX G X d mc ms Q (pc + 1) L (vJ v :: st) h kc ks) : EX G X d mc ms Q pc L (vJ y :: vJ x :: st) h kc ks := by
  intro p e s m args below meth c A H ls locs C hA w hS ho h1 h2 hl
  refine lv_land C.1 C.2.1 hd ?_
  rw [he]
  exact k p e s m args below meth c A H ls locs C hA w hS ho (ok_c hv (ok_t (ok_t h1))) h2 hl
theorem x_lshr {x y v : Int} (hd : decode X.2.1 pc = .ok (.lshr, 1)) (hv : okJ v) (he : Int64.ofInt x >>> ((Int32.ofInt y).toInt64 &&& 63) = Int64.ofInt v) (k : EX G X d mc ms Q (pc + 1) L (vJ v :: st) h kc ks) : EX G X d mc ms Q pc L (vI y :: vJ x :: st) h kc ks := by
  intro p e s m args below meth c A H ls locs C hA w hS ho h1 h2 hl
  exact lv_lshr C.1 C.2.1 hd he (k p e s m args below meth c A H ls locs C hA w hS ho (ok_c hv (ok_t (ok_t h1))) h2 hl)
theorem x_dup {v : aV} (hd : decode X.2.1 pc = .ok (.dup, 1)) (hc : (cv v).category = 1) (k : EX G X d mc ms Q (pc + 1) L (v :: v :: st) h kc ks) : EX G X d mc ms Q pc L (v :: st) h kc ks := by
  intro p e s m args below meth c A H ls locs C hA w hS ho h1 h2 hl
  exact lv_dup C.1 C.2.1 hd hc (k p e s m args below meth c A H ls locs C hA w hS ho (ok_c (ok_h h1) h1) h2 hl)
theorem x_dup2 {u v : aV} (hd : decode X.2.1 pc = .ok (.dup2, 1)) (hc : (cv u).category = 1) (hc2 : (cv v).category = 1) (k : EX G X d mc ms Q (pc + 1) L (u :: v :: u :: v :: st) h kc ks) : EX G X d mc ms Q pc L (u :: v :: st) h kc ks := by
  intro p e s m args below meth c A H ls locs C hA w hS ho h1 h2 hl
  exact lv_dup2_11 C.1 C.2.1 hd hc hc2 (k p e s m args below meth c A H ls locs C hA w hS ho (ok_c (ok_h h1) (ok_c (ok_h (ok_t h1)) h1)) h2 hl)
theorem x_dup2J {x : Int} (hd : decode X.2.1 pc = .ok (.dup2, 1)) (k : EX G X d mc ms Q (pc + 1) L (vJ x :: vJ x :: st) h kc ks) : EX G X d mc ms Q pc L (vJ x :: st) h kc ks := by
  intro p e s m args below meth c A H ls locs C hA w hS ho h1 h2 hl
  exact lv_dup2_2 C.1 C.2.1 hd rfl (k p e s m args below meth c A H ls locs C hA w hS ho (ok_c (ok_h h1) h1) h2 hl)
theorem x_goto {off : Int} (tgt : Nat) (hd : decode X.2.1 pc = .ok (.goto off, 3)) (ht : (pc : Int) + off = (tgt : Int)) (k : EX G X d mc ms Q tgt L st h kc ks) : EX G X d mc ms Q pc L st h kc ks := by
  intro p e s m args below meth c A H ls locs C hA w hS ho h1 h2 hl
  exact lv_goto C.1 C.2.1 hd ht (k p e s m args below meth c A H ls locs C hA w hS ho h1 h2 hl)
theorem x_icmp_eq {x y : Int} {off : Int} (tgt : Nat) (hd : decode X.2.1 pc = .ok (.if_icmp .eq off, 3)) (ht : (pc : Int) + off = (tgt : Int)) (kt : x = y → EX G X d mc ms Q tgt L st h kc ks) (kf : x ≠ y → EX G X d mc ms Q (pc + 3) L st h kc ks) : EX G X d mc ms Q pc L (vI y :: vI x :: st) h kc ks := by
  intro p e s m args below meth c A H ls locs C hA w hS ho h1 h2 hl
  have oy := ok_I h1
  have ox := ok_I (ok_t h1)
  exact lv_icmp_eq C.1 C.2.1 hd ht (fun q => kt ((i32_eq ox oy).mp q) p e s m args below meth c A H ls locs C hA w hS ho (ok_t (ok_t h1)) h2 hl) (fun q => kf (fun z => q ((i32_eq ox oy).mpr z)) p e s m args below meth c A H ls locs C hA w hS ho (ok_t (ok_t h1)) h2 hl)
theorem x_if_eq {x : Int} {off : Int} (tgt : Nat) (hd : decode X.2.1 pc = .ok (.ifCond .eq off, 3)) (ht : (pc : Int) + off = (tgt : Int)) (kt : x = 0 → EX G X d mc ms Q tgt L st h kc ks) (kf : x ≠ 0 → EX G X d mc ms Q (pc + 3) L st h kc ks) : EX G X d mc ms Q pc L (vI x :: st) h kc ks := by
  intro p e s m args below meth c A H ls locs C hA w hS ho h1 h2 hl
  have ox := ok_I h1
  exact lv_if_eq C.1 C.2.1 hd ht (fun q => kt ((i32_eq ox okI_0).mp q) p e s m args below meth c A H ls locs C hA w hS ho (ok_t h1) h2 hl) (fun q => kf (fun z => q ((i32_eq ox okI_0).mpr z)) p e s m args below meth c A H ls locs C hA w hS ho (ok_t h1) h2 hl)
theorem x_lc_eq {x y : Int} {off : Int} (tgt : Nat) (hd1 : decode X.2.1 pc = .ok (.lcmp, 1)) (hd : decode X.2.1 (pc + 1) = .ok (.ifCond .eq off, 3)) (ht : ((pc + 1 : Nat) : Int) + off = (tgt : Int)) (kt : x = y → EX G X d mc ms Q tgt L st h kc ks) (kf : x ≠ y → EX G X d mc ms Q (pc + 4) L st h kc ks) : EX G X d mc ms Q pc L (vJ y :: vJ x :: st) h kc ks := by
  intro p e s m args below meth c A H ls locs C hA w hS ho h1 h2 hl
  have oy := ok_J h1
  have ox := ok_J (ok_t h1)
  refine W.lcmp C.1 C.2.1 hd1 ?_
  exact lv_if_eq C.1 C.2.1 hd ht (fun q => kt ((i64_eq ox oy).mp ((lg_cmp_eq _ _).mp q)) p e s m args below meth c A H ls locs C hA w hS ho (ok_t (ok_t h1)) h2 hl) (fun q => kf (fun z => q ((lg_cmp_eq _ _).mpr ((i64_eq ox oy).mpr z))) p e s m args below meth c A H ls locs C hA w hS ho (ok_t (ok_t h1)) h2 hl)
theorem x_icmp_ne {x y : Int} {off : Int} (tgt : Nat) (hd : decode X.2.1 pc = .ok (.if_icmp .ne off, 3)) (ht : (pc : Int) + off = (tgt : Int)) (kt : x ≠ y → EX G X d mc ms Q tgt L st h kc ks) (kf : x = y → EX G X d mc ms Q (pc + 3) L st h kc ks) : EX G X d mc ms Q pc L (vI y :: vI x :: st) h kc ks := by
  intro p e s m args below meth c A H ls locs C hA w hS ho h1 h2 hl
  have oy := ok_I h1
  have ox := ok_I (ok_t h1)
  exact lv_icmp_ne C.1 C.2.1 hd ht (fun q => kt (fun z => q ((i32_eq ox oy).mpr z)) p e s m args below meth c A H ls locs C hA w hS ho (ok_t (ok_t h1)) h2 hl) (fun q => kf ((i32_eq ox oy).mp q) p e s m args below meth c A H ls locs C hA w hS ho (ok_t (ok_t h1)) h2 hl)
theorem x_if_ne {x : Int} {off : Int} (tgt : Nat) (hd : decode X.2.1 pc = .ok (.ifCond .ne off, 3)) (ht : (pc : Int) + off = (tgt : Int)) (kt : x ≠ 0 → EX G X d mc ms Q tgt L st h kc ks) (kf : x = 0 → EX G X d mc ms Q (pc + 3) L st h kc ks) : EX G X d mc ms Q pc L (vI x :: st) h kc ks := by
  intro p e s m args below meth c A H ls locs C hA w hS ho h1 h2 hl
  have ox := ok_I h1
  exact lv_if_ne C.1 C.2.1 hd ht (fun q => kt (fun z => q ((i32_eq ox okI_0).mpr z)) p e s m args below meth c A H ls locs C hA w hS ho (ok_t h1) h2 hl) (fun q => kf ((i32_eq ox okI_0).mp q) p e s m args below meth c A H ls locs C hA w hS ho (ok_t h1) h2 hl)
theorem x_lc_ne {x y : Int} {off : Int} (tgt : Nat) (hd1 : decode X.2.1 pc = .ok (.lcmp, 1)) (hd : decode X.2.1 (pc + 1) = .ok (.ifCond .ne off, 3)) (ht : ((pc + 1 : Nat) : Int) + off = (tgt : Int)) (kt : x ≠ y → EX G X d mc ms Q tgt L st h kc ks) (kf : x = y → EX G X d mc ms Q (pc + 4) L st h kc ks) : EX G X d mc ms Q pc L (vJ y :: vJ x :: st) h kc ks := by
  intro p e s m args below meth c A H ls locs C hA w hS ho h1 h2 hl
  have oy := ok_J h1
  have ox := ok_J (ok_t h1)
  refine W.lcmp C.1 C.2.1 hd1 ?_
  exact lv_if_ne C.1 C.2.1 hd ht (fun q => kt (fun z => q ((lg_cmp_eq _ _).mpr ((i64_eq ox oy).mpr z))) p e s m args below meth c A H ls locs C hA w hS ho (ok_t (ok_t h1)) h2 hl) (fun q => kf ((i64_eq ox oy).mp ((lg_cmp_eq _ _).mp q)) p e s m args below meth c A H ls locs C hA w hS ho (ok_t (ok_t h1)) h2 hl)
theorem x_icmp_lt {x y : Int} {off : Int} (tgt : Nat) (hd : decode X.2.1 pc = .ok (.if_icmp .lt off, 3)) (ht : (pc : Int) + off = (tgt : Int)) (kt : x < y → EX G X d mc ms Q tgt L st h kc ks) (kf : y ≤ x → EX G X d mc ms Q (pc + 3) L st h kc ks) : EX G X d mc ms Q pc L (vI y :: vI x :: st) h kc ks := by
  intro p e s m args below meth c A H ls locs C hA w hS ho h1 h2 hl
  have oy := ok_I h1
  have ox := ok_I (ok_t h1)
  exact lv_icmp_lt C.1 C.2.1 hd ht (fun q => kt ((i32_lt ox oy).mp q) p e s m args below meth c A H ls locs C hA w hS ho (ok_t (ok_t h1)) h2 hl) (fun q => kf (Int.not_lt.mp fun z => q ((i32_lt ox oy).mpr z)) p e s m args below meth c A H ls locs C hA w hS ho (ok_t (ok_t h1)) h2 hl)
theorem x_if_lt {x : Int} {off : Int} (tgt : Nat) (hd : decode X.2.1 pc = .ok (.ifCond .lt off, 3)) (ht : (pc : Int) + off = (tgt : Int)) (kt : x < 0 → EX G X d mc ms Q tgt L st h kc ks) (kf : 0 ≤ x → EX G X d mc ms Q (pc + 3) L st h kc ks) : EX G X d mc ms Q pc L (vI x :: st) h kc ks := by
  intro p e s m args below meth c A H ls locs C hA w hS ho h1 h2 hl
  have ox := ok_I h1
  exact lv_if_lt C.1 C.2.1 hd ht (fun q => kt ((i32_lt ox okI_0).mp q) p e s m args below meth c A H ls locs C hA w hS ho (ok_t h1) h2 hl) (fun q => kf (Int.not_lt.mp fun z => q ((i32_lt ox okI_0).mpr z)) p e s m args below meth c A H ls locs C hA w hS ho (ok_t h1) h2 hl)
theorem x_lc_lt {x y : Int} {off : Int} (tgt : Nat) (hd1 : decode X.2.1 pc = .ok (.lcmp, 1)) (hd : decode X.2.1 (pc + 1) = .ok (.ifCond .lt off, 3)) (ht : ((pc + 1 : Nat) : Int) + off = (tgt : Int)) (kt : x < y → EX G X d mc ms Q tgt L st h kc ks) (kf : y ≤ x → EX G X d mc ms Q (pc + 4) L st h kc ks) : EX G X d mc ms Q pc L (vJ y :: vJ x :: st) h kc ks := by
  intro p e s m args below meth c A H ls locs C hA w hS ho h1 h2 hl
  have oy := ok_J h1
  have ox := ok_J (ok_t h1)
  refine W.lcmp C.1 C.2.1 hd1 ?_
  exact lv_if_lt C.1 C.2.1 hd ht (fun q => kt ((i64_lt ox oy).mp ((lg_cmp_lt _ _).mp q)) p e s m args below meth c A H ls locs C hA w hS ho (ok_t (ok_t h1)) h2 hl) (fun q => kf (Int.not_lt.mp fun z => q ((lg_cmp_lt _ _).mpr ((i64_lt ox oy).mpr z))) p e s m args below meth c A H ls locs C hA w hS ho (ok_t (ok_t h1)) h2 hl)
theorem x_icmp_ge {x y : Int} {off : Int} (tgt : Nat) (hd : decode X.2.1 pc = .ok (.if_icmp .ge off, 3)) (ht : (pc : Int) + off = (tgt : Int)) (kt : y ≤ x → EX G X d mc ms Q tgt L st h kc ks) (kf : x < y → EX G X d mc ms Q (pc + 3) L st h kc ks) : EX G X d mc ms Q pc L (vI y :: vI x :: st) h kc ks := by
  intro p e s m args below meth c A H ls locs C hA w hS ho h1 h2 hl
  have oy := ok_I h1
  have ox := ok_I (ok_t h1)
  exact lv_icmp_ge C.1 C.2.1 hd ht (fun q => kt ((i32_le oy ox).mp q) p e s m args below meth c A H ls locs C hA w hS ho (ok_t (ok_t h1)) h2 hl) (fun q => kf (Int.not_le.mp fun z => q ((i32_le oy ox).mpr z)) p e s m args below meth c A H ls locs C hA w hS ho (ok_t (ok_t h1)) h2 hl)
theorem x_if_ge {x : Int} {off : Int} (tgt : Nat) (hd : decode X.2.1 pc = .ok (.ifCond .ge off, 3)) (ht : (pc : Int) + off = (tgt : Int)) (kt : 0 ≤ x → EX G X d mc ms Q tgt L st h kc ks) (kf : x < 0 → EX G X d mc ms Q (pc + 3) L st h kc ks) : EX G X d mc ms Q pc L (vI x :: st) h kc ks := by
  intro p e s m args below meth c A H ls locs C hA w hS ho h1 h2 hl
  have ox := ok_I h1
  exact lv_if_ge C.1 C.2.1 hd ht (fun q => kt ((i32_le okI_0 ox).mp q) p e s m args below meth c A H ls locs C hA w hS ho (ok_t h1) h2 hl) (fun q => kf (Int.not_le.mp fun z => q ((i32_le okI_0 ox).mpr z)) p e s m args below meth c A H ls locs C hA w hS ho (ok_t h1) h2 hl)
theorem x_lc_ge {x y : Int} {off : Int} (tgt : Nat) (hd1 : decode X.2.1 pc = .ok (.lcmp, 1)) (hd : decode X.2.1 (pc + 1) = .ok (.ifCond .ge off, 3)) (ht : ((pc + 1 : Nat) : Int) + off = (tgt : Int)) (kt : y ≤ x → EX G X d mc ms Q tgt L st h kc ks) (kf : x < y → EX G X d mc ms Q (pc + 4) L st h kc ks) : EX G X d mc ms Q pc L (vJ y :: vJ x :: st) h kc ks := by
  intro p e s m args below meth c A H ls locs C hA w hS ho h1 h2 hl
  have oy := ok_J h1
  have ox := ok_J (ok_t h1)
  refine W.lcmp C.1 C.2.1 hd1 ?_
  exact lv_if_ge C.1 C.2.1 hd ht (fun q => kt ((i64_le oy ox).mp ((lg_cmp_ge _ _).mp q)) p e s m args below meth c A H ls locs C hA w hS ho (ok_t (ok_t h1)) h2 hl) (fun q => kf (Int.not_le.mp fun z => q ((lg_cmp_ge _ _).mpr ((i64_le oy ox).mpr z))) p e s m args below meth c A H ls locs C hA w hS ho (ok_t (ok_t h1)) h2 hl)
theorem x_icmp_gt {x y : Int} {off : Int} (tgt : Nat) (hd : decode X.2.1 pc = .ok (.if_icmp .gt off, 3)) (ht : (pc : Int) + off = (tgt : Int)) (kt : y < x → EX G X d mc ms Q tgt L st h kc ks) (kf : x ≤ y → EX G X d mc ms Q (pc + 3) L st h kc ks) : EX G X d mc ms Q pc L (vI y :: vI x :: st) h kc ks := by
  intro p e s m args below meth c A H ls locs C hA w hS ho h1 h2 hl
  have oy := ok_I h1
  have ox := ok_I (ok_t h1)
  exact lv_icmp_gt C.1 C.2.1 hd ht (fun q => kt ((i32_lt oy ox).mp q) p e s m args below meth c A H ls locs C hA w hS ho (ok_t (ok_t h1)) h2 hl) (fun q => kf (Int.not_lt.mp fun z => q ((i32_lt oy ox).mpr z)) p e s m args below meth c A H ls locs C hA w hS ho (ok_t (ok_t h1)) h2 hl)
theorem x_if_gt {x : Int} {off : Int} (tgt : Nat) (hd : decode X.2.1 pc = .ok (.ifCond .gt off, 3)) (ht : (pc : Int) + off = (tgt : Int)) (kt : 0 < x → EX G X d mc ms Q tgt L st h kc ks) (kf : x ≤ 0 → EX G X d mc ms Q (pc + 3) L st h kc ks) : EX G X d mc ms Q pc L (vI x :: st) h kc ks := by
  intro p e s m args below meth c A H ls locs C hA w hS ho h1 h2 hl
  have ox := ok_I h1
  exact lv_if_gt C.1 C.2.1 hd ht (fun q => kt ((i32_lt okI_0 ox).mp q) p e s m args below meth c A H ls locs C hA w hS ho (ok_t h1) h2 hl) (fun q => kf (Int.not_lt.mp fun z => q ((i32_lt okI_0 ox).mpr z)) p e s m args below meth c A H ls locs C hA w hS ho (ok_t h1) h2 hl)
theorem x_lc_gt {x y : Int} {off : Int} (tgt : Nat) (hd1 : decode X.2.1 pc = .ok (.lcmp, 1)) (hd : decode X.2.1 (pc + 1) = .ok (.ifCond .gt off, 3)) (ht : ((pc + 1 : Nat) : Int) + off = (tgt : Int)) (kt : y < x → EX G X d mc ms Q tgt L st h kc ks) (kf : x ≤ y → EX G X d mc ms Q (pc + 4) L st h kc ks) : EX G X d mc ms Q pc L (vJ y :: vJ x :: st) h kc ks := by
  intro p e s m args below meth c A H ls locs C hA w hS ho h1 h2 hl
  have oy := ok_J h1
  have ox := ok_J (ok_t h1)
  refine W.lcmp C.1 C.2.1 hd1 ?_
  exact lv_if_gt C.1 C.2.1 hd ht (fun q => kt ((i64_lt oy ox).mp ((lg_cmp_gt _ _).mp q)) p e s m args below meth c A H ls locs C hA w hS ho (ok_t (ok_t h1)) h2 hl) (fun q => kf (Int.not_lt.mp fun z => q ((lg_cmp_gt _ _).mpr ((i64_lt oy ox).mpr z))) p e s m args below meth c A H ls locs C hA w hS ho (ok_t (ok_t h1)) h2 hl)
theorem x_icmp_le {x y : Int} {off : Int} (tgt : Nat) (hd : decode X.2.1 pc = .ok (.if_icmp .le off, 3)) (ht : (pc : Int) + off = (tgt : Int)) (kt : x ≤ y → EX G X d mc ms Q tgt L st h kc ks) (kf : y < x → EX G X d mc ms Q (pc + 3) L st h kc ks) : EX G X d mc ms Q pc L (vI y :: vI x :: st) h kc ks := by
  intro p e s m args below meth c A H ls locs C hA w hS ho h1 h2 hl
  have oy := ok_I h1
  have ox := ok_I (ok_t h1)
  exact lv_icmp_le C.1 C.2.1 hd ht (fun q => kt ((i32_le ox oy).mp q) p e s m args below meth c A H ls locs C hA w hS ho (ok_t (ok_t h1)) h2 hl) (fun q => kf (Int.not_le.mp fun z => q ((i32_le ox oy).mpr z)) p e s m args below meth c A H ls locs C hA w hS ho (ok_t (ok_t h1)) h2 hl)
theorem x_if_le {x : Int} {off : Int} (tgt : Nat) (hd : decode X.2.1 pc = .ok (.ifCond .le off, 3)) (ht : (pc : Int) + off = (tgt : Int)) (kt : x ≤ 0 → EX G X d mc ms Q tgt L st h kc ks) (kf : 0 < x → EX G X d mc ms Q (pc + 3) L st h kc ks) : EX G X d mc ms Q pc L (vI x :: st) h kc ks := by
  intro p e s m args below meth c A H ls locs C hA w hS ho h1 h2 hl
  have ox := ok_I h1
  exact lv_if_le C.1 C.2.1 hd ht (fun q => kt ((i32_le ox okI_0).mp q) p e s m args below meth c A H ls locs C hA w hS ho (ok_t h1) h2 hl) (fun q => kf (Int.not_le.mp fun z => q ((i32_le ox okI_0).mpr z)) p e s m args below meth c A H ls locs C hA w hS ho (ok_t h1) h2 hl)
theorem x_lc_le {x y : Int} {off : Int} (tgt : Nat) (hd1 : decode X.2.1 pc = .ok (.lcmp, 1)) (hd : decode X.2.1 (pc + 1) = .ok (.ifCond .le off, 3)) (ht : ((pc + 1 : Nat) : Int) + off = (tgt : Int)) (kt : x ≤ y → EX G X d mc ms Q tgt L st h kc ks) (kf : y < x → EX G X d mc ms Q (pc + 4) L st h kc ks) : EX G X d mc ms Q pc L (vJ y :: vJ x :: st) h kc ks := by
  intro p e s m args below meth c A H ls locs C hA w hS ho h1 h2 hl
  have oy := ok_J h1
  have ox := ok_J (ok_t h1)
  refine W.lcmp C.1 C.2.1 hd1 ?_
  exact lv_if_le C.1 C.2.1 hd ht (fun q => kt ((i64_le ox oy).mp ((lg_cmp_le _ _).mp q)) p e s m args below meth c A H ls locs C hA w hS ho (ok_t (ok_t h1)) h2 hl) (fun q => kf (Int.not_le.mp fun z => q ((lg_cmp_le _ _).mpr ((i64_le ox oy).mpr z))) p e s m args below meth c A H ls locs C hA w hS ho (ok_t (ok_t h1)) h2 hl)
theorem x_ifnull {r : Option Nat} {off : Int} (tgt : Nat) (hd : decode X.2.1 pc = .ok (.ifnull off, 3)) (ht : (pc : Int) + off = (tgt : Int)) (kt : (r = none) → EX G X d mc ms Q tgt L st h kc ks) (kf : (∃ a, r = some a) → EX G X d mc ms Q (pc + 3) L st h kc ks) : EX G X d mc ms Q pc L (vR r :: st) h kc ks := by
  intro p e s m args below meth c A H ls locs C hA w hS ho h1 h2 hl
  cases r with
  | none => exact lv_ifnullN C.1 C.2.1 hd ht (kt rfl p e s m args below meth c A H ls locs C hA w hS ho (ok_t h1) h2 hl)
  | some a => exact lv_ifnull C.1 C.2.1 hd (kf ⟨a, rfl⟩ p e s m args below meth c A H ls locs C hA w hS ho (ok_t h1) h2 hl)
theorem x_ifnonnull {r : Option Nat} {off : Int} (tgt : Nat) (hd : decode X.2.1 pc = .ok (.ifnonnull off, 3)) (ht : (pc : Int) + off = (tgt : Int)) (kt : (∃ a, r = some a) → EX G X d mc ms Q tgt L st h kc ks) (kf : (r = none) → EX G X d mc ms Q (pc + 3) L st h kc ks) : EX G X d mc ms Q pc L (vR r :: st) h kc ks := by
  intro p e s m args below meth c A H ls locs C hA w hS ho h1 h2 hl
  cases r with
  | none => exact lv_ifnonnullN C.1 C.2.1 hd (kf rfl p e s m args below meth c A H ls locs C hA w hS ho (ok_t h1) h2 hl)
  | some a => exact lv_ifnonnull C.1 C.2.1 hd ht (kt ⟨a, rfl⟩ p e s m args below meth c A H ls locs C hA w hS ho (ok_t h1) h2 hl)
theorem x_tableOut {x dflt lo hi : Int} {offs : Array Int} {len : Nat} (tgt : Nat) (hd : decode X.2.1 pc = .ok (.tableswitch dflt lo hi offs, len)) (hx : x < lo ∨ hi < x) (ht : (pc : Int) + dflt = (tgt : Int)) (k : EX G X d mc ms Q tgt L st h kc ks) : EX G X d mc ms Q pc L (vI x :: st) h kc ks := by
  intro p e s m args below meth c A H ls locs C hA w hS ho h1 h2 hl
  refine lv_tableOut C.1 C.2.1 hd ?_ ht (k p e s m args below meth c A H ls locs C hA w hS ho (ok_t h1) h2 hl)
  rw [i32_to (ok_I h1)]; exact hx
theorem x_tableIn {x dflt lo hi off : Int} {offs : Array Int} {len : Nat} (tgt : Nat) (hd : decode X.2.1 pc = .ok (.tableswitch dflt lo hi offs, len)) (hx1 : lo ≤ x) (hx2 : x ≤ hi) (hoff : offs[(x - lo).toNat]? = some off) (ht : (pc : Int) + off = (tgt : Int)) (k : EX G X d mc ms Q tgt L st h kc ks) : EX G X d mc ms Q pc L (vI x :: st) h kc ks := by
  intro p e s m args below meth c A H ls locs C hA w hS ho h1 h2 hl
  refine lv_tableIn C.1 C.2.1 hd (off := off) ?_ ?_ ?_ ht (k p e s m args below meth c A H ls locs C hA w hS ho (ok_t h1) h2 hl)
  · rw [i32_to (ok_I h1)]; omega
  · rw [i32_to (ok_I h1)]; omega
  · rw [i32_to (ok_I h1)]; exact hoff
theorem x_end {s : State} {args : Array Value} {A : Nat → Prop} {H : Heap} {locs : List Loc} {r : Option aV} (w : aWd G A h H) (hS : va_S A s.heap H locs) (ho : okH h) (hr : ∀ v, r = some v → okV v) (hq : Q r h) : ∀ t : State, t.heap = H → s.WarmedH t.vm → aQ G A Q args s (.returned (r.map cv)) t := by
  intro t ht _
  exact ⟨⟨r, h, hq, rfl, by rw [ht]; exact w, ho, hr⟩, hS.F ht⟩
theorem x_ireturn {x : Int} (hd : decode X.2.1 pc = .ok (.ireturn, 1)) (hr : X.2.2.2 = some .int) (hc : kc ≤ mc) (hs : ks ≤ ms) (hq : Q (some (vI x)) h) : EX G X d mc ms Q pc L [vI x] h kc ks := by
  intro p e s m args below meth c A H ls locs C hA w hS ho h1 h2 hl
  refine W.widen hc hs ?_
  exact W.iret (v := Int32.ofInt x) C.1 C.2.1 (C.2.2.2.1.trans hr) (x_end (r := some (vI x)) w hS ho (fun v hv => by cases hv; exact ok_I h1) hq) hS.2.2 hd C.2.2.2.2.2.2.1
theorem x_zreturn {x : Int} (hd : decode X.2.1 pc = .ok (.ireturn, 1)) (hr : X.2.2.2 = some .boolean) (hx : x = 0 ∨ x = 1) (hc : kc ≤ mc) (hs : ks ≤ ms) (hq : Q (some (vI x)) h) : EX G X d mc ms Q pc L [vI x] h kc ks := by
  intro p e s m args below meth c A H ls locs C hA w hS ho h1 h2 hl
  refine W.widen hc hs ?_
  refine W.zret (v := Int32.ofInt x) C.1 C.2.1 (C.2.2.2.1.trans hr) ?_ (x_end (r := some (vI x)) w hS ho (fun v hv => by cases hv; exact ok_I h1) hq) hS.2.2 hd C.2.2.2.2.2.2.1
  rcases hx with rfl | rfl <;> decide +kernel
theorem x_lreturn {x : Int} (hd : decode X.2.1 pc = .ok (.lreturn, 1)) (hr : X.2.2.2 = some .long) (hc : kc ≤ mc) (hs : ks ≤ ms) (hq : Q (some (vJ x)) h) : EX G X d mc ms Q pc L [vJ x] h kc ks := by
  intro p e s m args below meth c A H ls locs C hA w hS ho h1 h2 hl
  refine W.widen hc hs ?_
  exact W.lret (v := Int64.ofInt x) C.1 C.2.1 (C.2.2.2.1.trans hr) (x_end (r := some (vJ x)) w hS ho (fun v hv => by cases hv; exact ok_J h1) hq) hS.2.2 hd C.2.2.2.2.2.2.1
theorem x_areturn {r : Option Nat} {ty : FieldType} (hd : decode X.2.1 pc = .ok (.areturn, 1)) (hr : X.2.2.2 = some ty) (hty : (∃ n, ty = .object n) ∨ ∃ t, ty = .array t) (hc : kc ≤ mc) (hs : ks ≤ ms) (hq : Q (some (vR r)) h) : EX G X d mc ms Q pc L [vR r] h kc ks := by
  intro p e s m args below meth c A H ls locs C hA w hS ho h1 h2 hl
  refine W.widen hc hs ?_
  exact W.aret (v := va_rf r) C.1 C.2.1 (C.2.2.2.1.trans hr) hty (va_rf_or r) (x_end (r := some (vR r)) w hS ho (fun v hv => by cases hv; trivial) hq) hS.2.2 hd C.2.2.2.2.2.2.1
theorem x_return (hd : decode X.2.1 pc = .ok (.return_, 1)) (hr : X.2.2.2 = none) (hc : kc ≤ mc) (hs : ks ≤ ms) (hq : Q none h) : EX G X d mc ms Q pc L [] h kc ks := by
  intro p e s m args below meth c A H ls locs C hA w hS ho h1 h2 hl
  refine W.widen hc hs ?_
  exact W.vret C.1 C.2.1 (C.2.2.2.1.trans hr) (x_end (r := none) w hS ho (fun v hv => by cases hv) hq) hS.2.2 hd C.2.2.2.2.2.2.1
end XR
