/-! ===== calls: EX at a call, out of the callee's MC ===== -/
section XC
variable {G : aG} {X Y : aM} {d d' mc ms mc' ms' : Nat} {Q Q' : Option aV → aH → Prop} {pc : Nat} {L L' : List (Nat × aV)} {st : List aV} {h : aH} {kc ks : Nat}
theorem x_after {p : Program} {e : Env} {s : State} {m : MethodId} {args a : Array Value} {below : List Frame} {meth : Method} {c : Code} {A : Nat → Prop} {H : Heap} {ls : Array Slot} {locs : List Loc} {st0 : List Value}
    (C : aCtx G X p s m args meth c) (hA : ∀ q : Nat, s.heap.size ≤ q → A q) (w : aWd G A h H) (hS : va_S A s.heap H locs) (h1 : ∀ v ∈ st, okV v) (h2 : ∀ q ∈ L, okV q.2) (hl : lv_has ls X.2.2.1 (L.map cvq))
    (hr : va_Run p G.1 e (aRm d mc ms) s m args below meth c H locs kc ks mc' ms' (F0 m pc ls st0) (st.map cv) (aQ G (aA h H.size) Q' a) (aA h H.size))
    (k : ∀ (r : Option aV) (h' : aH), Q' r h' → EX G X d mc ms Q (pc + 3) L (r.toList ++ st) h' (kc + mc') (ks + ms')) : W p G.1 e (aRm d mc ms) s m args below meth c H locs kc ks (MQ below (aQ G A Q) args s mc ms A) (F0 m pc ls st0) := by
  have hAA : ∀ q : Nat, aA h H.size q → A q := by
    intro q hq
    rcases hq with hq | hq
    · exact w.in hq
    · exact hA q (Nat.le_trans hS.1 hq)
  intro T hT X₀
  obtain ⟨v, st₀, t, T', Lc, h0, X', hL, e1, e2, ⟨⟨r, h', hq, hv, w', ho', hr'⟩, hz, hk⟩, stp⟩ := hr T hT X₀
  have hv' : v = r.map cv := by injection hv
  subst hv'
  rw [h0] at hz hk
  have w2 : aWd G A h' T'.heap := by rw [e1]; exact w'.weaken fun a _ q => hAA a q
  have hS2 : va_S A s.heap T'.heap (locs ++ Lc) := ⟨Nat.le_trans hS.1 (by rw [e1]; exact hz), fun q q1 q2 => by rw [e1, hk q (Nat.lt_of_lt_of_le q1 hS.1) (fun z => q2 (hAA q z))]; exact hS.2.1 q q1 q2, fun q hq => by
      rcases List.mem_append.mp hq with z | z
      · exact hS.2.2 q z
      · exact hAA _ (hL q z)⟩
  have ok2 : ∀ v ∈ r.toList ++ st, okV v := by
    intro v hv
    rcases List.mem_append.mp hv with z | z
    · exact hr' v (by simpa using z)
    · exact h1 v z
  obtain ⟨t2, a1, b1⟩ := k r h' hq p e s m args below meth c A T'.heap ls (locs ++ Lc) C hA w2 hS2 ho' ok2 h2 hl T' rfl X'
  refine ⟨t2, stp t2 ?_, b1⟩
  have : (r.map cv).toList ++ st.map cv = (r.toList ++ st).map cv := by cases r <;> simp
  rw [this]
  exact a1
def aCal (Y : aM) : Prop := Cond.code Y.1 Y.2.1 Y.2.2.1 Y.2.2.2 ∈ lw_ok ∧ Cond.initialized Y.1.cls ∈ lw_ok ∧ (Y.1.cls ≠ "java/lang/invoke/MethodHandle" ∧ Y.1.cls ≠ "java/lang/invoke/VarHandle") ∧ Y.2.2.1 ≤ 19
theorem aCal.good {Y : aM} (h : aCal Y) : GoodIn lw_ok (.code Y.1 Y.2.1 Y.2.2.1 Y.2.2.2 :: lw_ok) := by
  intro w hw
  have hm : w ∈ lw_ok := by
    rcases List.mem_cons.mp hw with rfl | q
    · exact h.1
    · exact q
  exact ⟨hm, good_of_word (lw_ok_good w hm)⟩
theorem room_le {d d' n : Nat} (hd : d' + 1 ≤ d) (hn : n ≤ 19) : 8 + (n + 11) + 38 * d' ≤ 38 * d := by omega
theorem aPc_blind (as : List aV) (sz : Nat) : FrameBlind (va_Pc (as.map cv) (fun U => U.heap.size = sz ∧ aWd G (fun _ => True) h U.heap ∧ aKx G U)) :=
  fun a U g mk q => ⟨q.1, q.2.1, q.2.2.1, q.2.2.2.blind⟩
theorem aPar {n : Nat} {ds : String} (h : (parseMethodDescriptor ds).map (fun d => d.parameters.length) = some n) : ∀ sig, parseMethodDescriptor ds = some sig → n = sig.parameters.length := by
  intro sig q
  rw [q] at h
  exact (Option.some.inj h).symm
theorem st_rev (as : List aV) (st : List aV) : (as.reverse ++ st).map cv = (as.map cv).reverse ++ st.map cv := by simp
theorem ok_app {as st : List aV} (h : ∀ v ∈ as.reverse ++ st, okV v) : (∀ v ∈ as, okV v) ∧ ∀ v ∈ st, okV v :=
  ⟨fun v hv => h v (List.mem_append_left _ (List.mem_reverse.mpr hv)), fun v hv => h v (List.mem_append_right _ hv)⟩
theorem aRecv {p : Program} {s : State} {m : MethodId} {args : Array Value} {meth : Method} {c : Code} {A : Nat → Prop} {H : Heap} (C : aCtx G X p s m args meth c) (w : aWd G A h H) {b ci : Nat} {fs : List aV} (hb : h b = some (eO ci fs)) {K : String} {T : u_T} {N : Nat} (hc : vwCl[ci]? = some (K, T, N)) : ∃ cell : Cell, H[b]? = some cell ∧ cell.vm.isStatics = false ∧ s.vm.findClass K = some cell.cls := by
  obtain ⟨Ls, q, hP, hD, hL, hm, hk⟩ := w.get hb
  exact va_recv C.2.2.2.2.2.2.2.2.1 hP hc hk
theorem catsum (st : List aV) (hcat : ((st.map cv).map fun v => v.category).sum ≤ 8) : (((st.map cv)).map fun v => v.category).sum ≤ 8 := hcat
-- an ordinary virtual call (the method named is the one that runs)
def aLkV (own : String) (idx ci : Nat) (Y : aM) (n : Nat) : Prop := aCal Y ∧ ∃ (K : String) (T : u_T) (N : Nat), vwCl[ci]? = some (K, T, N) ∧ Cond.methodLink own idx Y.1 ∈ lw_ok ∧ Cond.instanceMethod Y.1 ∈ lw_ok ∧ Cond.selects K Y.1 Y.1 ∈ lw_ok ∧ (parseMethodDescriptor Y.1.desc).map (fun d => d.parameters.length) = some n
theorem x_callV {b ci n idx : Nat} {fs : List aV} (as : List aV) {stk : List aV} (hd : decode X.2.1 pc = .ok (.invokevirtual idx, 3)) (hk : aLkV X.1.cls idx ci Y n) (hstk : stk = as.reverse ++ vA b :: st) (hn : as.length = n) (hb : h b = some (eO ci fs)) (hdd : d' + 1 ≤ d) (hcat : ((st.map cv).map fun v => v.category).sum ≤ 8) (hc : kc + mc' ≤ mc) (hs : ks + ms' ≤ ms)
    (hM : MC G Y d' mc' ms' (vA b :: as) h Q') (k : ∀ (r : Option aV) (h' : aH), Q' r h' → EX G X d mc ms Q (pc + 3) L (r.toList ++ st) h' (kc + mc') (ks + ms')) : EX G X d mc ms Q pc L stk h kc ks := by
  subst hstk
  intro p e s m args below meth c A H ls locs C hA w hS ho h1 h2 hl
  obtain ⟨hY, K, T, N, hcl, hlk, hin, hsel, hpar⟩ := hk
  have hts := C.2.2.2.2.2.1
  obtain ⟨o1, o2⟩ := ok_app h1
  have hM1 := hM (ok_c trivial o1) ho H.size
  have hrcv := aRecv C w hb hcl
  have hcall : CallW (aRm d mc ms) s args X.1.cls K idx Y.1 Y.2.1 Y.2.2.1 Y.2.2.2 (.code Y.1 Y.2.1 Y.2.2.1 Y.2.2.2 :: lw_ok) (aRm d' mc' ms') mc' ms' n :=
    ⟨⟨rfl, rfl, hdd, room_le hdd hY.2.2.2, pay_in hts hY.good, List.mem_cons_self, hts _ hY.1, hts _ hY.2.1, hY.2.2.1, aPar hpar, hts _ hlk⟩, hts _ hin, hts _ hsel⟩
  rw [st_rev, List.map_cons]
  refine x_after (st := st) C hA w hS (ok_t o2) h2 hl (va_runV (As := as.map cv) (rest := st.map cv) ⟨C.1, C.2.1, C.2.2.1, C.2.2.2.2.1, hts⟩ hM1 hcall ⟨aPc_blind _ _, hrcv, fun U hU hW => ⟨rfl, by rw [hU], by rw [hU]; exact w.weaken fun _ _ _ => trivial, C.2.2.2.2.2.2.2.2.warm hW⟩⟩ rfl (by rw [List.length_map]; exact hn) hl.1 rfl (lv_room hcat) hd ⟨hc, hs⟩) k
-- a virtual call of a method that is inherited or overridden
def aLkU (own : String) (idx ci : Nat) (x : MethodName) (Y : aM) (n : Nat) : Prop := aCal Y ∧ ∃ (K owner : String) (T : u_T) (N : Nat) (b0 : ByteArray) (m0 : Nat) (r0 : Option FieldType), vwCl[ci]? = some (K, T, N) ∧ Cond.methodLink own idx x ∈ lw_ok ∧ Cond.sameMethod x.cls owner x.name x.desc ∈ lw_ok ∧ Cond.instanceMethod ⟨owner, x.name, x.desc⟩ ∈ lw_ok ∧ Cond.code ⟨owner, x.name, x.desc⟩ b0 m0 r0 ∈ lw_ok ∧ Cond.selects K x Y.1 ∈ lw_ok ∧ Cond.instanceMethod Y.1 ∈ lw_ok ∧ (owner ≠ "java/lang/invoke/MethodHandle" ∧ owner ≠ "java/lang/invoke/VarHandle") ∧ (parseMethodDescriptor x.desc).map (fun d => d.parameters.length) = some n
theorem x_callU {b ci n idx : Nat} {x : MethodName} {fs : List aV} (as : List aV) {stk : List aV} (hd : decode X.2.1 pc = .ok (.invokevirtual idx, 3)) (hk : aLkU X.1.cls idx ci x Y n) (hstk : stk = as.reverse ++ vA b :: st) (hn : as.length = n) (hb : h b = some (eO ci fs)) (hdd : d' + 1 ≤ d) (hcat : ((st.map cv).map fun v => v.category).sum ≤ 8) (hc : kc + mc' ≤ mc) (hs : ks + ms' ≤ ms)
    (hM : MC G Y d' mc' ms' (vA b :: as) h Q') (k : ∀ (r : Option aV) (h' : aH), Q' r h' → EX G X d mc ms Q (pc + 3) L (r.toList ++ st) h' (kc + mc') (ks + ms')) : EX G X d mc ms Q pc L stk h kc ks := by
  subst hstk
  intro p e s m args below meth c A H ls locs C hA w hS ho h1 h2 hl
  obtain ⟨hY, K, owner, T, N, b0, m0, r0, hcl, hlk, hsm, hdc, hcd, hsel, hin, how, hpar⟩ := hk
  have hts := C.2.2.2.2.2.1
  obtain ⟨o1, o2⟩ := ok_app h1
  have hM1 := hM (ok_c trivial o1) ho H.size
  have hrcv := aRecv C w hb hcl
  have hcall : va_CU (aRm d mc ms) s args X.1.cls K owner idx x Y.1 Y.2.1 Y.2.2.1 Y.2.2.2 (.code Y.1 Y.2.1 Y.2.2.1 Y.2.2.2 :: lw_ok) (aRm d' mc' ms') mc' ms' n :=
    ⟨⟨rfl, rfl, hdd, room_le hdd hY.2.2.2, pay_in hts hY.good, List.mem_cons_self⟩, hts _ hY.1, hts _ hY.2.1, how, aPar hpar, hts _ hlk, hts _ hsm, va_Decl.of (hts _ hdc) (hts _ hcd), hts _ hsel, hts _ hin⟩
  rw [st_rev, List.map_cons]
  refine x_after (st := st) C hA w hS (ok_t o2) h2 hl (va_runU (As := as.map cv) (rest := st.map cv) ⟨C.1, C.2.1, C.2.2.1, C.2.2.2.2.1, hts⟩ hM1 hcall ⟨aPc_blind _ _, hrcv, fun U hU hW => ⟨rfl, by rw [hU], by rw [hU]; exact w.weaken fun _ _ _ => trivial, C.2.2.2.2.2.2.2.2.warm hW⟩⟩ rfl (by rw [List.length_map]; exact hn) hl.1 rfl (lv_room hcat) hd ⟨hc, hs⟩) k
-- a static call
def aLkS (own : String) (idx : Nat) (Y : aM) (n : Nat) : Prop := aCal Y ∧ Cond.methodLink own idx Y.1 ∈ lw_ok ∧ Cond.static Y.1 ∈ lw_ok ∧ (parseMethodDescriptor Y.1.desc).map (fun d => d.parameters.length) = some n
theorem x_callS {n idx : Nat} (as : List aV) {stk : List aV} (hd : decode X.2.1 pc = .ok (.invokestatic idx, 3)) (hk : aLkS X.1.cls idx Y n) (hstk : stk = as.reverse ++ st) (hn : as.length = n) (hdd : d' + 1 ≤ d) (hcat : ((st.map cv).map fun v => v.category).sum ≤ 8) (hc : kc + mc' ≤ mc) (hs : ks + ms' ≤ ms)
    (hM : MC G Y d' mc' ms' as h Q') (k : ∀ (r : Option aV) (h' : aH), Q' r h' → EX G X d mc ms Q (pc + 3) L (r.toList ++ st) h' (kc + mc') (ks + ms')) : EX G X d mc ms Q pc L stk h kc ks := by
  subst hstk
  intro p e s m args below meth c A H ls locs C hA w hS ho h1 h2 hl
  obtain ⟨hY, hlk, hst, hpar⟩ := hk
  have hts := C.2.2.2.2.2.1
  obtain ⟨o1, o2⟩ := ok_app h1
  have hM1 := hM o1 ho H.size
  have hcall : CallB (aRm d mc ms) s args X.1.cls idx Y.1 Y.2.1 Y.2.2.1 Y.2.2.2 (.code Y.1 Y.2.1 Y.2.2.1 Y.2.2.2 :: lw_ok) (aRm d' mc' ms') mc' ms' n :=
    ⟨rfl, rfl, hdd, room_le hdd hY.2.2.2, pay_in hts hY.good, List.mem_cons_self, hts _ hY.1, hts _ hY.2.1, hY.2.2.1, aPar hpar, hts _ hlk⟩
  rw [st_rev]
  refine x_after (st := st) C hA w hS o2 h2 hl (va_runS (As := as.map cv) (rest := st.map cv) ⟨C.1, C.2.1, C.2.2.1, C.2.2.2.2.1, hts⟩ hM1 ⟨hcall, hts _ hst⟩ ⟨aPc_blind _ _, fun U hU hW => ⟨rfl, by rw [hU], by rw [hU]; exact w.weaken fun _ _ _ => trivial, C.2.2.2.2.2.2.2.2.warm hW⟩⟩ rfl (by rw [List.length_map]; exact hn) hl.1 rfl (lv_room hcat) hd ⟨hc, hs⟩) k
-- a constructor
def aLkI (own : String) (idx : Nat) (Y : aM) (n : Nat) : Prop := aCal Y ∧ Y.2.2.2 = none ∧ Cond.methodLink own idx Y.1 ∈ lw_ok ∧ Cond.instanceMethod Y.1 ∈ lw_ok ∧ Y.1.name = "<init>" ∧ (parseMethodDescriptor Y.1.desc).map (fun d => d.parameters.length) = some n
theorem x_callI {b n idx : Nat} (as : List aV) {stk : List aV} (hd : decode X.2.1 pc = .ok (.invokespecial idx, 3)) (hk : aLkI X.1.cls idx Y n) (hstk : stk = as.reverse ++ vA b :: st) (hn : as.length = n) (hdd : d' + 1 ≤ d) (hcat : ((st.map cv).map fun v => v.category).sum ≤ 8) (hc : kc + mc' ≤ mc) (hs : ks + ms' ≤ ms)
    (hM : MC G Y d' mc' ms' (vA b :: as) h Q') (k : ∀ (r : Option aV) (h' : aH), Q' r h' → EX G X d mc ms Q (pc + 3) L (r.toList ++ st) h' (kc + mc') (ks + ms')) : EX G X d mc ms Q pc L stk h kc ks := by
  subst hstk
  intro p e s m args below meth c A H ls locs C hA w hS ho h1 h2 hl
  obtain ⟨hY, hret, hlk, hin, hnm, hpar⟩ := hk
  obtain ⟨y, code, maxL, ret⟩ := Y
  simp only at hret hnm hpar hlk hin
  subst hret
  have hts := C.2.2.2.2.2.1
  obtain ⟨o1, o2⟩ := ok_app h1
  have hM1 := hM (ok_c trivial o1) ho H.size
  have hcall : CallB (aRm d mc ms) s args X.1.cls idx y code maxL none (.code y code maxL none :: lw_ok) (aRm d' mc' ms') mc' ms' n :=
    ⟨rfl, rfl, hdd, room_le hdd hY.2.2.2, pay_in hts hY.good, List.mem_cons_self, hts _ hY.1, hts _ hY.2.1, hY.2.2.1, aPar hpar, hts _ hlk⟩
  rw [st_rev, List.map_cons]
  refine x_after (st := st) C hA w hS (ok_t o2) h2 hl (va_runI (b := b) (As := as.map cv) (rest := st.map cv) ⟨C.1, C.2.1, C.2.2.1, C.2.2.2.2.1, hts⟩ hM1 ⟨hcall, hnm, hts _ hin⟩ ⟨aPc_blind _ _, fun U hU hW => ⟨rfl, by rw [hU], by rw [hU]; exact w.weaken fun _ _ _ => trivial, C.2.2.2.2.2.2.2.2.warm hW⟩⟩ rfl (by rw [List.length_map]; exact hn) hl.1 rfl (lv_room hcat) hd ⟨hc, hs⟩) k
-- a private constructor of a nest mate
def aLkIN (own : String) (idx : Nat) (Y : aM) (n : Nat) : Prop := aCal Y ∧ Y.2.2.2 = none ∧ (∃ host : String, Cond.methodLinkNest own idx Y.1 host ∈ aNW) ∧ Cond.instanceMethod Y.1 ∈ lw_ok ∧ Y.1.name = "<init>" ∧ (parseMethodDescriptor Y.1.desc).map (fun d => d.parameters.length) = some n
theorem x_callIN {b n idx : Nat} (as : List aV) {stk : List aV} (hd : decode X.2.1 pc = .ok (.invokespecial idx, 3)) (hk : aLkIN X.1.cls idx Y n) (hstk : stk = as.reverse ++ vA b :: st) (hn : as.length = n) (hdd : d' + 1 ≤ d) (hcat : ((st.map cv).map fun v => v.category).sum ≤ 8) (hc : kc + mc' ≤ mc) (hs : ks + ms' ≤ ms)
    (hM : MC G Y d' mc' ms' (vA b :: as) h Q') (k : ∀ (r : Option aV) (h' : aH), Q' r h' → EX G X d mc ms Q (pc + 3) L (r.toList ++ st) h' (kc + mc') (ks + ms')) : EX G X d mc ms Q pc L stk h kc ks := by
  subst hstk
  intro p e s m args below meth c A H ls locs C hA w hS ho h1 h2 hl
  obtain ⟨hY, hret, ⟨host, hlk⟩, hin, hnm, hpar⟩ := hk
  obtain ⟨y, code, maxL, ret⟩ := Y
  simp only at hret hnm hpar hlk hin
  subst hret
  have hts := C.2.2.2.2.2.1
  obtain ⟨o1, o2⟩ := ok_app h1
  have hM1 := hM (ok_c trivial o1) ho H.size
  have hlk2 := va_Nw.use (A := args) (aNW_tables _ hlk) (C.2.2.2.2.2.2.2.2.2.2 _ hlk)
  have hcall : va_CN (aRm d mc ms) s args X.1.cls idx y host code maxL none (.code y code maxL none :: lw_ok) (aRm d' mc' ms') mc' ms' n :=
    ⟨⟨rfl, rfl, hdd, room_le hdd hY.2.2.2, pay_in hts hY.good, List.mem_cons_self⟩, hts _ hY.1, hts _ hY.2.1, hY.2.2.1, aPar hpar, hlk2⟩
  rw [st_rev, List.map_cons]
  refine x_after (st := st) C hA w hS (ok_t o2) h2 hl (va_runIN (b := b) (As := as.map cv) (rest := st.map cv) ⟨C.1, C.2.1, C.2.2.1, C.2.2.2.2.1, hts⟩ hM1 ⟨hcall, hnm, hts _ hin⟩ ⟨aPc_blind _ _, fun U hU hW => ⟨rfl, by rw [hU], by rw [hU]; exact w.weaken fun _ _ _ => trivial, C.2.2.2.2.2.2.2.2.warm hW⟩⟩ rfl (by rw [List.length_map]; exact hn) hl.1 rfl (lv_room hcat) hd ⟨hc, hs⟩) k
-- super.method()
def aLkSU (own : String) (idx ci : Nat) (Y : aM) (n : Nat) : Prop := aCal Y ∧ ∃ (K : String) (T : u_T) (N : Nat), vwCl[ci]? = some (K, T, N) ∧ Cond.methodLink own idx Y.1 ∈ lw_ok ∧ Cond.sameMethod Y.1.cls Y.1.cls Y.1.name Y.1.desc ∈ lw_ok ∧ Cond.superclass own Y.1.cls ∈ lw_ok ∧ Cond.instanceMethod Y.1 ∈ lw_ok ∧ Y.1.name ≠ "<init>" ∧ (parseMethodDescriptor Y.1.desc).map (fun d => d.parameters.length) = some n
theorem x_callSU {b ci n idx : Nat} {fs : List aV} (as : List aV) {stk : List aV} (hd : decode X.2.1 pc = .ok (.invokespecial idx, 3)) (hk : aLkSU X.1.cls idx ci Y n) (hstk : stk = as.reverse ++ vA b :: st) (hn : as.length = n) (hb : h b = some (eO ci fs)) (hdd : d' + 1 ≤ d) (hcat : ((st.map cv).map fun v => v.category).sum ≤ 8) (hc : kc + mc' ≤ mc) (hs : ks + ms' ≤ ms)
    (hM : MC G Y d' mc' ms' (vA b :: as) h Q') (k : ∀ (r : Option aV) (h' : aH), Q' r h' → EX G X d mc ms Q (pc + 3) L (r.toList ++ st) h' (kc + mc') (ks + ms')) : EX G X d mc ms Q pc L stk h kc ks := by
  subst hstk
  intro p e s m args below meth c A H ls locs C hA w hS ho h1 h2 hl
  obtain ⟨hY, K, T, N, hcl, hlk, hsm, hsup, hin, hnm, hpar⟩ := hk
  have hts := C.2.2.2.2.2.1
  obtain ⟨o1, o2⟩ := ok_app h1
  have hM1 := hM (ok_c trivial o1) ho H.size
  have hrcv := aRecv C w hb hcl
  have hcall : va_CS (aRm d mc ms) s args X.1.cls idx Y.1 Y.2.1 Y.2.2.1 Y.2.2.2 (.code Y.1 Y.2.1 Y.2.2.1 Y.2.2.2 :: lw_ok) (aRm d' mc' ms') mc' ms' n :=
    ⟨⟨rfl, rfl, hdd, room_le hdd hY.2.2.2, pay_in hts hY.good, List.mem_cons_self⟩, hts _ hlk, hts _ hsm, hts _ hsup, hts _ hin, hts _ hY.2.1, hts _ hY.1, hnm, aPar hpar⟩
  rw [st_rev, List.map_cons]
  refine x_after (st := st) C hA w hS (ok_t o2) h2 hl (va_runSU (C.2.2.2.2.2.2.2.2.1.1 ci _ hcl).2 (As := as.map cv) (rest := st.map cv) ⟨C.1, C.2.1, C.2.2.1, C.2.2.2.2.1, hts⟩ hM1 hcall ⟨aPc_blind _ _, hrcv, fun U hU hW => ⟨rfl, by rw [hU], by rw [hU]; exact w.weaken fun _ _ _ => trivial, C.2.2.2.2.2.2.2.2.warm hW⟩⟩ rfl (by rw [List.length_map]; exact hn) hl.1 rfl (lv_room hcat) hd ⟨hc, hs⟩) k
/-- Object's constructor -/
theorem x_objInit {a idx : Nat} (hd : decode X.2.1 pc = .ok (.invokespecial idx, 3)) (hlk : Cond.methodLink X.1.cls idx Lib.objectInit ∈ lw_ok) (hd1 : 1 ≤ d) (hcat : ((st.map cv).map fun v => v.category).sum ≤ 8) (k : EX G X d mc ms Q (pc + 3) L st h kc ks) : EX G X d mc ms Q pc L (vA a :: st) h kc ks := by
  intro p e s m args below meth c A H ls locs C hA w hS ho h1 h2 hl
  have hts := C.2.2.2.2.2.1
  have e1 : Cond.instanceMethod Lib.objectInit ∈ lw_ok := by decide +kernel
  have e2 : Cond.code Lib.objectInit ⟨#[0xb1]⟩ 1 none ∈ lw_ok := by decide +kernel
  refine W.objInit C.1 C.2.1 C.2.2.2.2.1 (hts _ hlk) (hts _ e1) (hts _ e2) rfl (hl.1.trans C.2.2.1.symm) rfl hd hd1 ?_ (k p e s m args below meth c A H ls locs C hA w hS ho (ok_t h1) h2 hl)
  show 2 * 0 + ((st.map cv).map fun v => v.category).sum + 12 ≤ 38 * d
  omega
-- Math
theorem x_maxI {idx : Nat} {x y : Int} (hd : decode X.2.1 pc = .ok (.invokestatic idx, 3)) (hlk : Cond.methodLink X.1.cls idx Lib.Math.max.name ∈ lw_ok) (hd1 : 1 ≤ d) (hcat : ((st.map cv).map fun v => v.category).sum ≤ 8) (hc : kc ≤ mc) (hs : ks ≤ ms) (k : EX G X d mc ms Q (pc + 3) L (vI (max x y) :: st) h kc ks) : EX G X d mc ms Q pc L (vI y :: vI x :: st) h kc ks := by
  intro p e s m args below meth c A H ls locs C hA w hS ho h1 h2 hl
  have hts := C.2.2.2.2.2.1
  have e1 : Cond.static Lib.Math.max.name ∈ lw_ok := by decide +kernel
  have e2 : Cond.code Lib.Math.max.name Lib.Math.max.code 2 (some .int) ∈ lw_ok := by decide +kernel
  have e3 : Cond.initialized "java/lang/Math" ∈ lw_ok := by decide +kernel
  have oy := ok_I h1
  have ox := ok_I (ok_t h1)
  refine va_mmax C.1 C.2.1 (C.2.2.1.trans hl.1.symm) C.2.2.2.2.1 (hts _ hlk) (hts _ e1) (hts _ e3) (hts _ e2) hd1 ?_ hc hs hd ?_
  · show ((st.map cv).map fun v => v.category).sum + 13 ≤ 38 * d
    omega
  · have hm : (if Int32.ofInt x < Int32.ofInt y then Int32.ofInt y else Int32.ofInt x) = Int32.ofInt (max x y) := by
      by_cases hxy : x < y
      · rw [if_pos ((i32_lt ox oy).mpr hxy), Int.max_eq_right (by omega)]
      · rw [if_neg (fun z => hxy ((i32_lt ox oy).mp z)), Int.max_eq_left (by omega)]
    rw [hm]
    exact k p e s m args below meth c A H ls locs C hA w hS ho (ok_c (show okI _ by unfold okI at *; omega) (ok_t (ok_t h1))) h2 hl
theorem x_minI {idx : Nat} {x y : Int} (hd : decode X.2.1 pc = .ok (.invokestatic idx, 3)) (hlk : Cond.methodLink X.1.cls idx Lib.Math.min.name ∈ lw_ok) (hd1 : 1 ≤ d) (hcat : ((st.map cv).map fun v => v.category).sum ≤ 8) (hc : kc ≤ mc) (hs : ks ≤ ms) (k : EX G X d mc ms Q (pc + 3) L (vI (min x y) :: st) h kc ks) : EX G X d mc ms Q pc L (vI y :: vI x :: st) h kc ks := by
  intro p e s m args below meth c A H ls locs C hA w hS ho h1 h2 hl
  have hts := C.2.2.2.2.2.1
  have e1 : Cond.static Lib.Math.min.name ∈ lw_ok := by decide +kernel
  have e2 : Cond.code Lib.Math.min.name Lib.Math.min.code 2 (some .int) ∈ lw_ok := by decide +kernel
  have e3 : Cond.initialized "java/lang/Math" ∈ lw_ok := by decide +kernel
  have oy := ok_I h1
  have ox := ok_I (ok_t h1)
  refine va_mmin C.1 C.2.1 (C.2.2.1.trans hl.1.symm) C.2.2.2.2.1 (hts _ hlk) (hts _ e1) (hts _ e3) (hts _ e2) hd1 ?_ hc hs hd ?_
  · show ((st.map cv).map fun v => v.category).sum + 13 ≤ 38 * d
    omega
  · have hm : (if Int32.ofInt y < Int32.ofInt x then Int32.ofInt y else Int32.ofInt x) = Int32.ofInt (min x y) := by
      by_cases hxy : y < x
      · rw [if_pos ((i32_lt oy ox).mpr hxy), Int.min_eq_right (by omega)]
      · rw [if_neg (fun z => hxy ((i32_lt oy ox).mp z)), Int.min_eq_left (by omega)]
    rw [hm]
    exact k p e s m args below meth c A H ls locs C hA w hS ho (ok_c (show okI _ by unfold okI at *; omega) (ok_t (ok_t h1))) h2 hl
theorem x_maxJ {idx : Nat} {x y : Int} (hd : decode X.2.1 pc = .ok (.invokestatic idx, 3)) (hlk : Cond.methodLink X.1.cls idx Lib.MathLoose.max_long.x ∈ lw_ok) (hd1 : 1 ≤ d) (hcat : ((st.map cv).map fun v => v.category).sum ≤ 8) (hc : kc ≤ mc) (hs : ks ≤ ms) (k : EX G X d mc ms Q (pc + 3) L (vJ (max x y) :: st) h kc ks) : EX G X d mc ms Q pc L (vJ y :: vJ x :: st) h kc ks := by
  intro p e s m args below meth c A H ls locs C hA w hS ho h1 h2 hl
  have hts := C.2.2.2.2.2.1
  have e1 : Cond.static Lib.MathLoose.max_long.x ∈ lw_ok := by decide +kernel
  have e2 : Cond.code Lib.MathLoose.max_long.x Lib.MathLoose.max_long.code 4 (some .long) ∈ lw_ok := by decide +kernel
  have e3 : Cond.initialized "java/lang/Math" ∈ lw_ok := by decide +kernel
  have oy := ok_J h1
  have ox := ok_J (ok_t h1)
  refine va_mmax_long C.1 C.2.1 (C.2.2.1.trans hl.1.symm) C.2.2.2.2.1 (hts _ hlk) (hts _ e1) (hts _ e3) (hts _ e2) hd1 ?_ hc hs hd ?_
  · show ((st.map cv).map fun v => v.category).sum + 15 ≤ 38 * d
    omega
  · have hm : (if Int64.ofInt y < Int64.ofInt x then Int64.ofInt x else Int64.ofInt y) = Int64.ofInt (max x y) := by
      by_cases hxy : y < x
      · rw [if_pos ((i64_lt oy ox).mpr hxy), Int.max_eq_left (by omega)]
      · rw [if_neg (fun z => hxy ((i64_lt oy ox).mp z)), Int.max_eq_right (by omega)]
    rw [hm]
    exact k p e s m args below meth c A H ls locs C hA w hS ho (ok_c (show okJ _ by unfold okJ at *; omega) (ok_t (ok_t h1))) h2 hl
theorem x_minJ {idx : Nat} {x y : Int} (hd : decode X.2.1 pc = .ok (.invokestatic idx, 3)) (hlk : Cond.methodLink X.1.cls idx Lib.MathLoose.min_long.x ∈ lw_ok) (hd1 : 1 ≤ d) (hcat : ((st.map cv).map fun v => v.category).sum ≤ 8) (hc : kc ≤ mc) (hs : ks ≤ ms) (k : EX G X d mc ms Q (pc + 3) L (vJ (min x y) :: st) h kc ks) : EX G X d mc ms Q pc L (vJ y :: vJ x :: st) h kc ks := by
  intro p e s m args below meth c A H ls locs C hA w hS ho h1 h2 hl
  have hts := C.2.2.2.2.2.1
  have e1 : Cond.static Lib.MathLoose.min_long.x ∈ lw_ok := by decide +kernel
  have e2 : Cond.code Lib.MathLoose.min_long.x Lib.MathLoose.min_long.code 4 (some .long) ∈ lw_ok := by decide +kernel
  have e3 : Cond.initialized "java/lang/Math" ∈ lw_ok := by decide +kernel
  have oy := ok_J h1
  have ox := ok_J (ok_t h1)
  refine va_mmin_long C.1 C.2.1 (C.2.2.1.trans hl.1.symm) C.2.2.2.2.1 (hts _ hlk) (hts _ e1) (hts _ e3) (hts _ e2) hd1 ?_ hc hs hd ?_
  · show ((st.map cv).map fun v => v.category).sum + 15 ≤ 38 * d
    omega
  · have hm : (if Int64.ofInt y < Int64.ofInt x then Int64.ofInt y else Int64.ofInt x) = Int64.ofInt (min x y) := by
      by_cases hxy : y < x
      · rw [if_pos ((i64_lt oy ox).mpr hxy), Int.min_eq_right (by omega)]
      · rw [if_neg (fun z => hxy ((i64_lt oy ox).mp z)), Int.min_eq_left (by omega)]
    rw [hm]
    exact k p e s m args below meth c A H ls locs C hA w hS ho (ok_c (show okJ _ by unfold okJ at *; omega) (ok_t (ok_t h1))) h2 hl
end XC
