/-! ===== EL: the law's own frame: EX, where the cell of the script stays as it was ===== -/
abbrev aZ : Type := Nat × Nat × (Nat → Int32)
def aScr (Z : aZ) (s : State) (A : Nat → Prop) : Prop := va_X Z.1 Z.2.1 Z.2.2 s s.heap ∧ Z.1 < s.heap.size ∧ ¬ A Z.1
def EL (Z : aZ) (G : aG) (X : aM) (d mc ms : Nat) (Q : Option aV → aH → Prop) (pc : Nat) (L : List (Nat × aV)) (st : List aV) (h : aH) (kc ks : Nat) : Prop :=
  ∀ (p : Program) (e : Env) (s : State) (m : MethodId) (args : Array Value) (below : List Frame) (meth : Method) (c : Code) (A : Nat → Prop) (H : Heap) (ls : Array Slot) (locs : List Loc),
    aCtx G X p s m args meth c → aScr Z s A → (∀ q : Nat, s.heap.size ≤ q → A q) → aWd G A h H → va_S A s.heap H locs → okH h → (∀ v ∈ st, okV v) → (∀ q ∈ L, okV q.2) → lv_has ls X.2.2.1 (L.map cvq) →
    W p G.1 e (aRm d mc ms) s m args below meth c H locs kc ks (MQ below (aQ G A Q) args s mc ms A) (F0 m pc ls (st.map cv))
section XL
variable {Z : aZ} {G : aG} {X Y : aM} {d d' mc ms mc' ms' : Nat} {Q Q' : Option aV → aH → Prop} {pc : Nat} {L L' : List (Nat × aV)} {st : List aV} {h : aH} {kc ks : Nat}
theorem EL.drop (k : EL Z G X d mc ms Q pc L' st h kc ks) (hs : ∀ q ∈ L', q ∈ L) : EL Z G X d mc ms Q pc L st h kc ks := by
  intro p e s m args below meth c A H ls locs C hZ hA w hS ho h1 h2 hl
  refine k p e s m args below meth c A H ls locs C hZ hA w hS ho h1 (fun q hq => h2 q (hs q hq)) ⟨hl.1, hl.2.1, fun q hq => ?_⟩
  obtain ⟨q0, hq0, rfl⟩ := List.mem_map.mp hq
  exact hl.2.2 _ (List.mem_map.mpr ⟨q0, hs q0 hq0, rfl⟩)
theorem EL.wide {kc' ks' : Nat} (hc : kc ≤ kc') (hs : ks ≤ ks') (k : EL Z G X d mc ms Q pc L st h kc' ks') : EL Z G X d mc ms Q pc L st h kc ks := by
  intro p e s m args below meth c A H ls locs C hZ hA w hS ho h1 h2 hl
  exact W.widen hc hs (k p e s m args below meth c A H ls locs C hZ hA w hS ho h1 h2 hl)
theorem EL.pick (ks' : List Nat) (hL : ks'.filterMap (fun k => L[k]?) = L') (k : EL Z G X d mc ms Q pc L' st h kc ks) : EL Z G X d mc ms Q pc L st h kc ks := by
  refine k.drop fun q hq => ?_
  rw [← hL] at hq
  obtain ⟨i, -, hi⟩ := List.mem_filterMap.mp hq
  exact List.mem_of_getElem? hi
theorem l_iconst {n : Int} (hd : decode X.2.1 pc = .ok (.iconst n, 1)) (hn : okI n) (k : EL Z G X d mc ms Q (pc + 1) L (vI n :: st) h kc ks) : EL Z G X d mc ms Q pc L st h kc ks := by
  intro p e s m args below meth c A H ls locs C hZ hA w hS ho h1 h2 hl
  exact lv_iconst C.1 C.2.1 hd rfl (k p e s m args below meth c A H ls locs C hZ hA w hS ho (ok_c hn h1) h2 hl)
theorem l_bipush {n : Int} (hd : decode X.2.1 pc = .ok (.bipush n, 2)) (hn : okI n) (hv : (Int8.ofInt n).toInt32 = Int32.ofInt n) (k : EL Z G X d mc ms Q (pc + 2) L (vI n :: st) h kc ks) : EL Z G X d mc ms Q pc L st h kc ks := by
  intro p e s m args below meth c A H ls locs C hZ hA w hS ho h1 h2 hl
  exact lv_bipush C.1 C.2.1 hd hv (k p e s m args below meth c A H ls locs C hZ hA w hS ho (ok_c hn h1) h2 hl)
theorem l_ldc2 {n : Int} {idx : Nat} (hd : decode X.2.1 pc = .ok (.ldc2_w idx, 3)) (hn : okJ n) (hc : Cond.constantLong X.1.cls idx (Int64.ofInt n) ∈ lw_ok) (k : EL Z G X d mc ms Q (pc + 3) L (vJ n :: st) h kc ks) : EL Z G X d mc ms Q pc L st h kc ks := by
  intro p e s m args below meth c A H ls locs C hZ hA w hS ho h1 h2 hl
  exact lv_ldc2 C.1 C.2.1 C.2.2.2.2.1 (C.2.2.2.2.2.1 _ hc) hd (k p e s m args below meth c A H ls locs C hZ hA w hS ho (ok_c hn h1) h2 hl)
theorem l_iload_n {x : Int} {i : Nat} {f : Fin 4} (j : Nat) (hd : decode X.2.1 pc = .ok (.iload_n f, 1)) (hi : (f : Nat) = i) (hq : L[j]? = some (i, vI x)) (k : EL Z G X d mc ms Q (pc + 1) L (vI x :: st) h kc ks) : EL Z G X d mc ms Q pc L st h kc ks := by
  intro p e s m args below meth c A H ls locs C hZ hA w hS ho h1 h2 hl
  exact lv_iload_n C.1 C.2.1 hd hi (hl.2.2 _ (List.mem_map.mpr ⟨_, List.mem_of_getElem? hq, rfl⟩)) (k p e s m args below meth c A H ls locs C hZ hA w hS ho (ok_c (h2 _ (List.mem_of_getElem? hq)) h1) h2 hl)
theorem l_aload_n {x : Nat} {i : Nat} {f : Fin 4} (j : Nat) (hd : decode X.2.1 pc = .ok (.aload_n f, 1)) (hi : (f : Nat) = i) (hq : L[j]? = some (i, vA x)) (k : EL Z G X d mc ms Q (pc + 1) L (vA x :: st) h kc ks) : EL Z G X d mc ms Q pc L st h kc ks := by
  intro p e s m args below meth c A H ls locs C hZ hA w hS ho h1 h2 hl
  exact lv_aload_n C.1 C.2.1 hd hi (hl.2.2 _ (List.mem_map.mpr ⟨_, List.mem_of_getElem? hq, rfl⟩)) (k p e s m args below meth c A H ls locs C hZ hA w hS ho (ok_c (h2 _ (List.mem_of_getElem? hq)) h1) h2 hl)
theorem l_istore_n {x : Int} {i : Nat} {f : Fin 4} (hd : decode X.2.1 pc = .ok (.istore_n f, 1)) (hi : (f : Nat) = i) (hn : i < X.2.2.1) (hL : (i, vI x) :: aDel1 i L = L') (k : EL Z G X d mc ms Q (pc + 1) L' st h kc ks) : EL Z G X d mc ms Q pc L (vI x :: st) h kc ks := by
  intro p e s m args below meth c A H ls locs C hZ hA w hS ho h1 h2 hl
  refine lv_istore_n C.1 C.2.1 hd hi hl hn (lv' := (L').map cvq) ?_ fun ls' hl' => ?_
  · rw [aDel1_cv, ← hL]; rfl
  · subst hL
    exact k p e s m args below meth c A H ls' locs C hZ hA w hS ho (ok_t h1) (aDel1_ok (ok_h h1) h2) hl'
theorem l_astore_n {x : Nat} {i : Nat} {f : Fin 4} (hd : decode X.2.1 pc = .ok (.astore_n f, 1)) (hi : (f : Nat) = i) (hn : i < X.2.2.1) (hL : (i, vA x) :: aDel1 i L = L') (k : EL Z G X d mc ms Q (pc + 1) L' st h kc ks) : EL Z G X d mc ms Q pc L (vA x :: st) h kc ks := by
  intro p e s m args below meth c A H ls locs C hZ hA w hS ho h1 h2 hl
  refine lv_astore_n C.1 C.2.1 hd hi hl hn (lv' := (L').map cvq) ?_ fun ls' hl' => ?_
  · rw [aDel1_cv, ← hL]; rfl
  · subst hL
    exact k p e s m args below meth c A H ls' locs C hZ hA w hS ho (ok_t h1) (aDel1_ok (ok_h h1) h2) hl'
theorem l_iinc {x n : Int} {i : Nat} (j : Nat) (hd : decode X.2.1 pc = .ok (.iinc i n, 3)) (hq : L[j]? = some (i, vI x)) (hx : okI (x + n)) (hn : i < X.2.2.1) (hL : (i, vI (x + n)) :: aDel1 i L = L') (k : EL Z G X d mc ms Q (pc + 3) L' st h kc ks) : EL Z G X d mc ms Q pc L st h kc ks := by
  intro p e s m args below meth c A H ls locs C hZ hA w hS ho h1 h2 hl
  refine lv_iinc (k := j) (x := Int32.ofInt x) (v := Int32.ofInt (x + n)) C.1 C.2.1 hd hl ?_ (i32_add x n) hn (lv' := (L').map cvq) ?_ fun ls' hl' => ?_
  · rw [List.getElem?_map, hq]; rfl
  · rw [aDel1_cv, ← hL]; rfl
  · subst hL
    exact k p e s m args below meth c A H ls' locs C hZ hA w hS ho h1 (aDel1_ok hx h2) hl'
theorem l_iadd {x y : Int} (hd : decode X.2.1 pc = .ok (.iadd, 1)) (hv : okI (x + y)) (k : EL Z G X d mc ms Q (pc + 1) L (vI (x + y) :: st) h kc ks) : EL Z G X d mc ms Q pc L (vI y :: vI x :: st) h kc ks := by
  intro p e s m args below meth c A H ls locs C hZ hA w hS ho h1 h2 hl
  refine lv_iadd C.1 C.2.1 hd ?_
  rw [i32_add]
  exact k p e s m args below meth c A H ls locs C hZ hA w hS ho (ok_c hv (ok_t (ok_t h1))) h2 hl
theorem l_isub {x y : Int} (hd : decode X.2.1 pc = .ok (.isub, 1)) (hv : okI (x - y)) (k : EL Z G X d mc ms Q (pc + 1) L (vI (x - y) :: st) h kc ks) : EL Z G X d mc ms Q pc L (vI y :: vI x :: st) h kc ks := by
  intro p e s m args below meth c A H ls locs C hZ hA w hS ho h1 h2 hl
  refine lv_isub C.1 C.2.1 hd ?_
  rw [i32_sub]
  exact k p e s m args below meth c A H ls locs C hZ hA w hS ho (ok_c hv (ok_t (ok_t h1))) h2 hl
theorem l_i2l {x : Int} (hd : decode X.2.1 pc = .ok (.i2l, 1)) (k : EL Z G X d mc ms Q (pc + 1) L (vJ x :: st) h kc ks) : EL Z G X d mc ms Q pc L (vI x :: st) h kc ks := by
  intro p e s m args below meth c A H ls locs C hZ hA w hS ho h1 h2 hl
  exact lv_i2l C.1 C.2.1 hd (i32_i2l (ok_I h1)) (k p e s m args below meth c A H ls locs C hZ hA w hS ho (ok_c (okJ_I (ok_I h1)) (ok_t h1)) h2 hl)
theorem l_iand {x y v : Int} (hd : decode X.2.1 pc = .ok (.iand, 1)) (hv : okI v) (he : Int32.ofInt x &&& Int32.ofInt y = Int32.ofInt v) (k : EL Z G X d mc ms Q (pc + 1) L (vI v :: st) h kc ks) : EL Z G X d mc ms Q pc L (vI y :: vI x :: st) h kc ks := by
  intro p e s m args below meth c A H ls locs C hZ hA w hS ho h1 h2 hl
  refine lv_iand C.1 C.2.1 hd ?_
  rw [he]
  exact k p e s m args below meth c A H ls locs C hZ hA w hS ho (ok_c hv (ok_t (ok_t h1))) h2 hl
theorem l_land {x y v : Int} (hd : decode X.2.1 pc = .ok (.land, 1)) (hv : okJ v) (he : Int64.ofInt x &&& Int64.ofInt y = Int64.ofInt v) (k : EL Z G X d mc ms Q (pc + 1) L (vJ v :: st) h kc ks) : EL Z G X d mc ms Q pc L (vJ y :: vJ x :: st) h kc ks := by
  intro p e s m args below meth c A H ls locs C hZ hA w hS ho h1 h2 hl
  refine lv_land C.1 C.2.1 hd ?_
  rw [he]
  exact k p e s m args below meth c A H ls locs C hZ hA w hS ho (ok_c hv (ok_t (ok_t h1))) h2 hl
theorem l_dup {v : aV} (hd : decode X.2.1 pc = .ok (.dup, 1)) (hc : (cv v).category = 1) (k : EL Z G X d mc ms Q (pc + 1) L (v :: v :: st) h kc ks) : EL Z G X d mc ms Q pc L (v :: st) h kc ks := by
  intro p e s m args below meth c A H ls locs C hZ hA w hS ho h1 h2 hl
  exact lv_dup C.1 C.2.1 hd hc (k p e s m args below meth c A H ls locs C hZ hA w hS ho (ok_c (ok_h h1) h1) h2 hl)
theorem l_goto {off : Int} (tgt : Nat) (hd : decode X.2.1 pc = .ok (.goto off, 3)) (ht : (pc : Int) + off = (tgt : Int)) (k : EL Z G X d mc ms Q tgt L st h kc ks) : EL Z G X d mc ms Q pc L st h kc ks := by
  intro p e s m args below meth c A H ls locs C hZ hA w hS ho h1 h2 hl
  exact lv_goto C.1 C.2.1 hd ht (k p e s m args below meth c A H ls locs C hZ hA w hS ho h1 h2 hl)
theorem l_icmp_eq {x y : Int} {off : Int} (tgt : Nat) (hd : decode X.2.1 pc = .ok (.if_icmp .eq off, 3)) (ht : (pc : Int) + off = (tgt : Int)) (kt : x = y → EL Z G X d mc ms Q tgt L st h kc ks) (kf : x ≠ y → EL Z G X d mc ms Q (pc + 3) L st h kc ks) : EL Z G X d mc ms Q pc L (vI y :: vI x :: st) h kc ks := by
  intro p e s m args below meth c A H ls locs C hZ hA w hS ho h1 h2 hl
  have oy := ok_I h1
  have ox := ok_I (ok_t h1)
  exact lv_icmp_eq C.1 C.2.1 hd ht (fun q => kt ((i32_eq ox oy).mp q) p e s m args below meth c A H ls locs C hZ hA w hS ho (ok_t (ok_t h1)) h2 hl) (fun q => kf (fun z => q ((i32_eq ox oy).mpr z)) p e s m args below meth c A H ls locs C hZ hA w hS ho (ok_t (ok_t h1)) h2 hl)
theorem l_icmp_gt {x y : Int} {off : Int} (tgt : Nat) (hd : decode X.2.1 pc = .ok (.if_icmp .gt off, 3)) (ht : (pc : Int) + off = (tgt : Int)) (kt : y < x → EL Z G X d mc ms Q tgt L st h kc ks) (kf : x ≤ y → EL Z G X d mc ms Q (pc + 3) L st h kc ks) : EL Z G X d mc ms Q pc L (vI y :: vI x :: st) h kc ks := by
  intro p e s m args below meth c A H ls locs C hZ hA w hS ho h1 h2 hl
  have oy := ok_I h1
  have ox := ok_I (ok_t h1)
  exact lv_icmp_gt C.1 C.2.1 hd ht (fun q => kt ((i32_lt oy ox).mp q) p e s m args below meth c A H ls locs C hZ hA w hS ho (ok_t (ok_t h1)) h2 hl) (fun q => kf (Int.not_lt.mp fun z => q ((i32_lt oy ox).mpr z)) p e s m args below meth c A H ls locs C hZ hA w hS ho (ok_t (ok_t h1)) h2 hl)
theorem l_lc_eq {x y : Int} {off : Int} (tgt : Nat) (hd1 : decode X.2.1 pc = .ok (.lcmp, 1)) (hd : decode X.2.1 (pc + 1) = .ok (.ifCond .eq off, 3)) (ht : ((pc + 1 : Nat) : Int) + off = (tgt : Int)) (kt : x = y → EL Z G X d mc ms Q tgt L st h kc ks) (kf : x ≠ y → EL Z G X d mc ms Q (pc + 4) L st h kc ks) : EL Z G X d mc ms Q pc L (vJ y :: vJ x :: st) h kc ks := by
  intro p e s m args below meth c A H ls locs C hZ hA w hS ho h1 h2 hl
  have oy := ok_J h1
  have ox := ok_J (ok_t h1)
  refine W.lcmp C.1 C.2.1 hd1 ?_
  exact lv_if_eq C.1 C.2.1 hd ht (fun q => kt ((i64_eq ox oy).mp ((lg_cmp_eq _ _).mp q)) p e s m args below meth c A H ls locs C hZ hA w hS ho (ok_t (ok_t h1)) h2 hl) (fun q => kf (fun z => q ((lg_cmp_eq _ _).mpr ((i64_eq ox oy).mpr z))) p e s m args below meth c A H ls locs C hZ hA w hS ho (ok_t (ok_t h1)) h2 hl)
theorem l_tableOut {x dflt lo hi : Int} {offs : Array Int} {len : Nat} (tgt : Nat) (hd : decode X.2.1 pc = .ok (.tableswitch dflt lo hi offs, len)) (hx : x < lo ∨ hi < x) (ht : (pc : Int) + dflt = (tgt : Int)) (k : EL Z G X d mc ms Q tgt L st h kc ks) : EL Z G X d mc ms Q pc L (vI x :: st) h kc ks := by
  intro p e s m args below meth c A H ls locs C hZ hA w hS ho h1 h2 hl
  refine lv_tableOut C.1 C.2.1 hd ?_ ht (k p e s m args below meth c A H ls locs C hZ hA w hS ho (ok_t h1) h2 hl)
  rw [i32_to (ok_I h1)]; exact hx
theorem l_tableIn {x dflt lo hi off : Int} {offs : Array Int} {len : Nat} (tgt : Nat) (hd : decode X.2.1 pc = .ok (.tableswitch dflt lo hi offs, len)) (hx1 : lo ≤ x) (hx2 : x ≤ hi) (hoff : offs[(x - lo).toNat]? = some off) (ht : (pc : Int) + off = (tgt : Int)) (k : EL Z G X d mc ms Q tgt L st h kc ks) : EL Z G X d mc ms Q pc L (vI x :: st) h kc ks := by
  intro p e s m args below meth c A H ls locs C hZ hA w hS ho h1 h2 hl
  refine lv_tableIn C.1 C.2.1 hd (off := off) ?_ ?_ ?_ ht (k p e s m args below meth c A H ls locs C hZ hA w hS ho (ok_t h1) h2 hl)
  · rw [i32_to (ok_I h1)]; omega
  · rw [i32_to (ok_I h1)]; omega
  · rw [i32_to (ok_I h1)]; exact hoff
theorem l_zreturn {x : Int} (hd : decode X.2.1 pc = .ok (.ireturn, 1)) (hr : X.2.2.2 = some .boolean) (hx : x = 0 ∨ x = 1) (hc : kc ≤ mc) (hs : ks ≤ ms) (hq : Q (some (vI x)) h) : EL Z G X d mc ms Q pc L [vI x] h kc ks := by
  intro p e s m args below meth c A H ls locs C hZ hA w hS ho h1 h2 hl
  refine W.widen hc hs ?_
  refine W.zret (v := Int32.ofInt x) C.1 C.2.1 (C.2.2.2.1.trans hr) ?_ (x_end (r := some (vI x)) w hS ho (fun v hv => by cases hv; exact ok_I h1) hq) hS.2.2 hd C.2.2.2.2.2.2.1
  rcases hx with rfl | rfl <;> decide +kernel
theorem l_new {ci : Nat} {fs : List aV} {idx : Nat} (hd : decode X.2.1 pc = .ok (.new idx, 3)) (hF : aNew X.1.cls idx ci fs) (hc : kc + 1 ≤ mc) (hs : ks + fs.length ≤ ms) (k : ∀ q : Nat, h q = none → (∀ b : Nat, (h b).isSome = true → b < q) → EL Z G X d mc ms Q (pc + 3) L (vA q :: st) (hset h q (eO ci fs)) (kc + 1) (ks + fs.length)) : EL Z G X d mc ms Q pc L st h kc ks := by
  intro p e s m args below meth c A H ls locs C hZ hA w hS ho h1 h2 hl
  obtain ⟨K, T, N, ty, hcl, hN, hin, hty, hlk, hins, hini, hdf, hok⟩ := hF
  have hts := C.2.2.2.2.2.1
  have hKn := C.2.2.2.2.2.2.2.2.1.1 ci _ hcl
  refine W.newcK C.1 C.2.1 C.2.2.2.2.1 (hts _ hlk) (hts _ hins) (hts _ hini) rfl hd hc (by rw [hN]; exact hs) hKn.2.1 rfl fun H1 kC hkC e1 z1 o1 => ?_
  have hs1 : va_S A s.heap H1 locs := ⟨Nat.le_trans hS.1 (by omega), fun x q1 q2 => (o1 x (Nat.lt_of_lt_of_le q1 hS.1)).trans (hS.2.1 x q1 q2), hS.2.2⟩
  have hw1 : aWd G A (hset h H.size (eO ci fs)) H1 := w.kept (ho := w.fresh) o1 ⟨_, hcl, (u_born ty hts hin hKn hkC e1 hty).to hdf⟩ (hA _ hS.1)
  rw [hN]
  exact k H.size w.fresh (fun b hb => w.lt hb) p e s m args below meth c A H1 ls locs C hZ hA hw1 hs1 (ho.set hok) (ok_c trivial h1) h2 hl
theorem l_newN {ci : Nat} {fs : List aV} {idx : Nat} (n : Nat) (hd : decode X.2.1 pc = .ok (.new idx, 3)) (hF : aNew X.1.cls idx ci fs) (hn : fs.length = n) (hc : kc + 1 ≤ mc) (hs : ks + n ≤ ms) (k : ∀ q : Nat, h q = none → (∀ b : Nat, (h b).isSome = true → b < q) → EL Z G X d mc ms Q (pc + 3) L (vA q :: st) (hset h q (eO ci fs)) (kc + 1) (ks + n)) : EL Z G X d mc ms Q pc L st h kc ks := by
  subst hn
  exact l_new hd hF hc hs k
theorem l_after {p : Program} {e : Env} {s : State} {m : MethodId} {args a : Array Value} {below : List Frame} {meth : Method} {c : Code} {A : Nat → Prop} {H : Heap} {ls : Array Slot} {locs : List Loc} {st0 : List Value}
    (C : aCtx G X p s m args meth c) (hZ : aScr Z s A) (hA : ∀ q : Nat, s.heap.size ≤ q → A q) (w : aWd G A h H) (hS : va_S A s.heap H locs) (h1 : ∀ v ∈ st, okV v) (h2 : ∀ q ∈ L, okV q.2) (hl : lv_has ls X.2.2.1 (L.map cvq))
    (hr : va_Run p G.1 e (aRm d mc ms) s m args below meth c H locs kc ks mc' ms' (F0 m pc ls st0) (st.map cv) (aQ G (aA h H.size) Q' a) (aA h H.size))
    (k : ∀ (r : Option aV) (h' : aH), Q' r h' → EL Z G X d mc ms Q (pc + 3) L (r.toList ++ st) h' (kc + mc') (ks + ms')) : W p G.1 e (aRm d mc ms) s m args below meth c H locs kc ks (MQ below (aQ G A Q) args s mc ms A) (F0 m pc ls st0) := by
  have hAA : ∀ q : Nat, aA h H.size q → A q := by
    intro q hq
    rcases hq with hq | hq
    · exact w.in hq
    · exact hA q (Nat.le_trans hS.1 hq)
  intro T hT X₀
  obtain ⟨v, st₀, t, T', Lc, h0, X', hL, e1, e2, ⟨⟨r, h', hq, hv, w', ho', hr'⟩, hz, hk⟩, stp⟩ := hr T hT X₀
  have hv' : v = r.map cv := by injection hv
  subst hv'
  rw [h0] at hz hk
  have w2 : aWd G A h' T'.heap := by rw [e1]; exact w'.weaken fun a _ q => hAA a q
  have hS2 : va_S A s.heap T'.heap (locs ++ Lc) := ⟨Nat.le_trans hS.1 (by rw [e1]; exact hz), fun q q1 q2 => by rw [e1, hk q (Nat.lt_of_lt_of_le q1 hS.1) (fun z => q2 (hAA q z))]; exact hS.2.1 q q1 q2, fun q hq => by
      rcases List.mem_append.mp hq with z | z
      · exact hS.2.2 q z
      · exact hAA _ (hL q z)⟩
  have ok2 : ∀ v ∈ r.toList ++ st, okV v := by
    intro v hv
    rcases List.mem_append.mp hv with z | z
    · exact hr' v (by simpa using z)
    · exact h1 v z
  obtain ⟨t2, a1, b1⟩ := k r h' hq p e s m args below meth c A T'.heap ls (locs ++ Lc) C hZ hA w2 hS2 ho' ok2 h2 hl T' rfl X'
  refine ⟨t2, stp t2 ?_, b1⟩
  have : (r.map cv).toList ++ st.map cv = (r.toList ++ st).map cv := by cases r <;> simp
  rw [this]
  exact a1
theorem l_callV {b ci n idx : Nat} {fs : List aV} (as : List aV) {stk : List aV} (hd : decode X.2.1 pc = .ok (.invokevirtual idx, 3)) (hk : aLkV X.1.cls idx ci Y n) (hstk : stk = as.reverse ++ vA b :: st) (hn : as.length = n) (hb : h b = some (eO ci fs)) (hdd : d' + 1 ≤ d) (hcat : ((st.map cv).map fun v => v.category).sum ≤ 8) (hc : kc + mc' ≤ mc) (hs : ks + ms' ≤ ms)
    (hM : MC G Y d' mc' ms' (vA b :: as) h Q') (k : ∀ (r : Option aV) (h' : aH), Q' r h' → EL Z G X d mc ms Q (pc + 3) L (r.toList ++ st) h' (kc + mc') (ks + ms')) : EL Z G X d mc ms Q pc L stk h kc ks := by
  subst hstk
  intro p e s m args below meth c A H ls locs C hZ hA w hS ho h1 h2 hl
  obtain ⟨hY, K, T, N, hcl, hlk, hin, hsel, hpar⟩ := hk
  have hts := C.2.2.2.2.2.1
  obtain ⟨o1, o2⟩ := ok_app h1
  have hM1 := hM (ok_c trivial o1) ho H.size
  have hrcv := aRecv C w hb hcl
  have hcall : CallW (aRm d mc ms) s args X.1.cls K idx Y.1 Y.2.1 Y.2.2.1 Y.2.2.2 (.code Y.1 Y.2.1 Y.2.2.1 Y.2.2.2 :: lw_ok) (aRm d' mc' ms') mc' ms' n :=
    ⟨⟨rfl, rfl, hdd, room_le hdd hY.2.2.2, pay_in hts hY.good, List.mem_cons_self, hts _ hY.1, hts _ hY.2.1, hY.2.2.1, aPar hpar, hts _ hlk⟩, hts _ hin, hts _ hsel⟩
  rw [st_rev, List.map_cons]
  refine l_after (st := st) C hZ hA w hS (ok_t o2) h2 hl (va_runV (As := as.map cv) (rest := st.map cv) ⟨C.1, C.2.1, C.2.2.1, C.2.2.2.2.1, hts⟩ hM1 hcall ⟨aPc_blind _ _, hrcv, fun U hU hW => ⟨rfl, by rw [hU], by rw [hU]; exact w.weaken fun _ _ _ => trivial, C.2.2.2.2.2.2.2.2.warm hW⟩⟩ rfl (by rw [List.length_map]; exact hn) hl.1 rfl (lv_room hcat) hd ⟨hc, hs⟩) k
theorem l_callI {b n idx : Nat} (as : List aV) {stk : List aV} (hd : decode X.2.1 pc = .ok (.invokespecial idx, 3)) (hk : aLkI X.1.cls idx Y n) (hstk : stk = as.reverse ++ vA b :: st) (hn : as.length = n) (hdd : d' + 1 ≤ d) (hcat : ((st.map cv).map fun v => v.category).sum ≤ 8) (hc : kc + mc' ≤ mc) (hs : ks + ms' ≤ ms)
    (hM : MC G Y d' mc' ms' (vA b :: as) h Q') (k : ∀ (r : Option aV) (h' : aH), Q' r h' → EL Z G X d mc ms Q (pc + 3) L (r.toList ++ st) h' (kc + mc') (ks + ms')) : EL Z G X d mc ms Q pc L stk h kc ks := by
  subst hstk
  intro p e s m args below meth c A H ls locs C hZ hA w hS ho h1 h2 hl
  obtain ⟨hY, hret, hlk, hin, hnm, hpar⟩ := hk
  obtain ⟨y, code, maxL, ret⟩ := Y
  simp only at hret hnm hpar hlk hin
  subst hret
  have hts := C.2.2.2.2.2.1
  obtain ⟨o1, o2⟩ := ok_app h1
  have hM1 := hM (ok_c trivial o1) ho H.size
  have hcall : CallB (aRm d mc ms) s args X.1.cls idx y code maxL none (.code y code maxL none :: lw_ok) (aRm d' mc' ms') mc' ms' n :=
    ⟨rfl, rfl, hdd, room_le hdd hY.2.2.2, pay_in hts hY.good, List.mem_cons_self, hts _ hY.1, hts _ hY.2.1, hY.2.2.1, aPar hpar, hts _ hlk⟩
  rw [st_rev, List.map_cons]
  refine l_after (st := st) C hZ hA w hS (ok_t o2) h2 hl (va_runI (b := b) (As := as.map cv) (rest := st.map cv) ⟨C.1, C.2.1, C.2.2.1, C.2.2.2.2.1, hts⟩ hM1 ⟨hcall, hnm, hts _ hin⟩ ⟨aPc_blind _ _, fun U hU hW => ⟨rfl, by rw [hU], by rw [hU]; exact w.weaken fun _ _ _ => trivial, C.2.2.2.2.2.2.2.2.warm hW⟩⟩ rfl (by rw [List.length_map]; exact hn) hl.1 rfl (lv_room hcat) hd ⟨hc, hs⟩) k
theorem l_nmI {x : Int} (k : ∀ y : Int, y = x → EL Z G X d mc ms Q pc L (vI y :: st) h kc ks) : EL Z G X d mc ms Q pc L (vI x :: st) h kc ks := k x rfl
theorem l_nmJ {x : Int} (k : ∀ y : Int, y = x → EL Z G X d mc ms Q pc L (vJ y :: st) h kc ks) : EL Z G X d mc ms Q pc L (vJ x :: st) h kc ks := k x rfl
theorem l_nmh (k : ∀ h' : aH, h' = h → EL Z G X d mc ms Q pc L st h' kc ks) : EL Z G X d mc ms Q pc L st h kc ks := k h rfl
theorem okJ_to (x : Int64) : okJ x.toInt := ⟨x.le_toInt, by have := x.toInt_lt; omega⟩
theorem okI_to (x : Int32) : okI x.toInt := ⟨x.le_toInt, by have := x.toInt_lt; omega⟩
/-- what the machine makes of two words -/
def wAnd (x y : Int) : Int := (Int32.ofInt x &&& Int32.ofInt y).toInt
def jAnd (x y : Int) : Int := (Int64.ofInt x &&& Int64.ofInt y).toInt
def jOr (x y : Int) : Int := (Int64.ofInt x ||| Int64.ofInt y).toInt
def jShl (x y : Int) : Int := (Int64.ofInt x <<< ((Int32.ofInt y).toInt64 &&& 63)).toInt
theorem l_wand {x y : Int} (hd : decode X.2.1 pc = .ok (.iand, 1)) (k : EL Z G X d mc ms Q (pc + 1) L (vI (wAnd x y) :: st) h kc ks) : EL Z G X d mc ms Q pc L (vI y :: vI x :: st) h kc ks :=
  l_iand (v := wAnd x y) hd (okI_to _) (Int32.ofInt_toInt _).symm k
theorem l_jand {x y : Int} (hd : decode X.2.1 pc = .ok (.land, 1)) (k : EL Z G X d mc ms Q (pc + 1) L (vJ (jAnd x y) :: st) h kc ks) : EL Z G X d mc ms Q pc L (vJ y :: vJ x :: st) h kc ks :=
  l_land (v := jAnd x y) hd (okJ_to _) (Int64.ofInt_toInt _).symm k
theorem l_jor {x y : Int} (hd : decode X.2.1 pc = .ok (.lor, 1)) (k : EL Z G X d mc ms Q (pc + 1) L (vJ (jOr x y) :: st) h kc ks) : EL Z G X d mc ms Q pc L (vJ y :: vJ x :: st) h kc ks := by
  intro p e s m args below meth c A H ls locs C hZ hA w hS ho h1 h2 hl
  refine lv_lor C.1 C.2.1 hd ?_
  rw [show Int64.ofInt x ||| Int64.ofInt y = Int64.ofInt (jOr x y) from (Int64.ofInt_toInt _).symm]
  exact k p e s m args below meth c A H ls locs C hZ hA w hS ho (ok_c (okJ_to _) (ok_t (ok_t h1))) h2 hl
theorem l_jshl {x y : Int} (hd : decode X.2.1 pc = .ok (.lshl, 1)) (k : EL Z G X d mc ms Q (pc + 1) L (vJ (jShl x y) :: st) h kc ks) : EL Z G X d mc ms Q pc L (vI y :: vJ x :: st) h kc ks := by
  intro p e s m args below meth c A H ls locs C hZ hA w hS ho h1 h2 hl
  exact lv_lshl C.1 C.2.1 hd (Int64.ofInt_toInt _).symm (k p e s m args below meth c A H ls locs C hZ hA w hS ho (ok_c (okJ_to _) (ok_t (ok_t h1))) h2 hl)
/-- what the script holds -/
def sx (Z : aZ) (j : Int) : Int := (Z.2.2 j.toNat).toInt
theorem l_sld {i : Int} (hd : decode X.2.1 pc = .ok (.iaload, 1)) (h0 : 0 ≤ i) (hn : i < Z.2.1) (k : EL Z G X d mc ms Q (pc + 1) L (vI (sx Z i) :: st) h kc ks) : EL Z G X d mc ms Q pc L (vI i :: vA Z.1 :: st) h kc ks := by
  intro p e s m args below meth c A H ls locs C hZ hA w hS ho h1 h2 hl
  refine va_sld C.1 C.2.1 hZ.1 hZ.2.1 hZ.2.2 hS (i32_in (ok_I h1) h0 hn) hd ?_
  have e1 : Z.2.2 (Int32.ofInt i).toNatClampNeg = Int32.ofInt (sx Z i) := by
    rw [i32_nat (ok_I h1) h0]; exact (Int32.ofInt_toInt _).symm
  rw [e1]
  exact k p e s m args below meth c A H ls locs C hZ hA w hS ho (ok_c (okI_to _) (ok_t (ok_t h1))) h2 hl
theorem l_slen (hd : decode X.2.1 pc = .ok (.arraylength, 1)) (hn : Z.2.1 ≤ 2048) (k : EL Z G X d mc ms Q (pc + 1) L (vI ((Z.2.1 : Nat) : Int) :: st) h kc ks) : EL Z G X d mc ms Q pc L (vA Z.1 :: st) h kc ks := by
  intro p e s m args below meth c A H ls locs C hZ hA w hS ho h1 h2 hl
  refine va_slen C.1 C.2.1 hZ.1 hZ.2.1 hZ.2.2 hS hd ?_
  rw [show Int32.ofNat Z.2.1 = Int32.ofInt ((Z.2.1 : Nat) : Int) from Int32.ofInt_eq_ofNat.symm]
  exact k p e s m args below meth c A H ls locs C hZ hA w hS ho (ok_c (by show okI _; unfold okI; omega) (ok_t h1)) h2 hl
end XL
theorem nw_L_7 : aNew RL 7 8 [vN, vI 0, vI 0, vN, vI 0, vN, vI 0, vN, vN, vI 0] := ⟨RX9, TX9, 10, tyX9, rfl, rfl, inX9, tyX9_ok, lw_okI 51 (by decide +kernel) (by decide +kernel), lw_okI 52 (by decide +kernel) (by decide +kernel), lw_okI 37 (by decide +kernel) (by decide +kernel), fun j hj => by rcases (show j = 0 ∨ j = 1 ∨ j = 2 ∨ j = 3 ∨ j = 4 ∨ j = 5 ∨ j = 6 ∨ j = 7 ∨ j = 8 ∨ j = 9 by omega) with rfl | rfl | rfl | rfl | rfl | rfl | rfl | rfl | rfl | rfl <;> rfl, by intro v hv; simp only [List.mem_cons, List.not_mem_nil, or_false] at hv; rcases hv with rfl | rfl | rfl | rfl | rfl | rfl | rfl | rfl | rfl | rfl <;> first | trivial | exact okI_0 | exact okJ_0⟩
theorem nw_L_10 : aNew RL 10 9 [vI 0, vN, vN, vN, vN, vN, vI 0, vN, vI 0, vN, vI 0, vI 0, vN, vI 0, vN] := ⟨RX10, TX10, 15, tyX10, rfl, rfl, inX10, tyX10_ok, lw_okI 640 (by decide +kernel) (by decide +kernel), lw_okI 641 (by decide +kernel) (by decide +kernel), lw_okI 41 (by decide +kernel) (by decide +kernel), fun j hj => by rcases (show j = 0 ∨ j = 1 ∨ j = 2 ∨ j = 3 ∨ j = 4 ∨ j = 5 ∨ j = 6 ∨ j = 7 ∨ j = 8 ∨ j = 9 ∨ j = 10 ∨ j = 11 ∨ j = 12 ∨ j = 13 ∨ j = 14 by omega) with rfl | rfl | rfl | rfl | rfl | rfl | rfl | rfl | rfl | rfl | rfl | rfl | rfl | rfl | rfl <;> rfl, by intro v hv; simp only [List.mem_cons, List.not_mem_nil, or_false] at hv; rcases hv with rfl | rfl | rfl | rfl | rfl | rfl | rfl | rfl | rfl | rfl | rfl | rfl | rfl | rfl | rfl <;> first | trivial | exact okI_0 | exact okJ_0⟩
abbrev mL_law : aM := (yL_law, cL_law, 4, some .boolean)
