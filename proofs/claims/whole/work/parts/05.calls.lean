/-! calls: the callee's contract, its cells by their places, what comes back beside the rest -/
theorem kk_pick {α : Type} {f : Nat → Option α} {is : List Nat} {w : List α} (h : is.map f = w.map some) : is.filterMap f = w := by
  have h2 := congrArg (List.filterMap id) h
  simpa [List.filterMap_map] using h2
section KC
variable {p : Program} {l : Launch} {e : Env} {R : Room} {s : State} {m : MethodId} {args : Array Value} {below : List Frame} {meth : Method} {c : Code} {H : Heap} {locs : List Loc} {cells slots : Nat} {Q : State → Prop}
variable {cc : ByteArray} {pc : Nat} {ls : Array Slot} {rest st0 : List Value} {G : va_G} {A : Nat → Prop} {tys tysC : List (ClassId × FieldType)} {ws w0 wr : va_W} {a0 : Array Value} {y : MethodName} {wy Ts : List Cond} {rm : Room} {bytes : ByteArray} {maxL nL n index b : Nat} {ret : Option FieldType} {own C : String} {As : List Value}
theorem kk_ri {S : Type} {post : Int32 → S → Prop} {w1 : S → va_W} (hr : va_Run p l e R s m args below meth c H locs cells slots 0 0 (F0 m pc ls st0) rest (va_Qi post (fun u t => kB G tysC (va_A w0 H.size) (w1 u) t) (va_A w0 H.size) a0) (va_A w0 H.size))
    (hA : ∀ q, s.heap.size ≤ q → A q) (h : kAt G A s ws H locs) (isC isR : List Nat) (hC : isC.map (fun i => ws[i]?) = w0.map some) (hR : isR.map (fun i => ws[i]?) = wr.map some) (hn : va_nd isR = true) (hdis : ∀ i ∈ isR, i ∉ isC)
    (kk : ∀ (r : Int32) (u : S) (H1 : Heap) (locs1 : List Loc), post r u → kAt G A s (wr ++ w1 u) H1 locs1 → W p l e R s m args below meth c H1 locs1 cells slots Q (F0 m (pc + 3) ls (.int r :: rest))) : W p l e R s m args below meth c H locs cells slots Q (F0 m pc ls st0) := by
  have hF := va_free (wc := w0) h.2.1 h.2.2 hA isC hC
  refine va_calli hr h.2.2 (fun q _ h => hF q h) hF (fun r u t H1 locs1 ht hvm hw hB hz1 hk1 hS => ?_)
  obtain ⟨hP1, hK1, hD1⟩ := hB
  rw [ht] at hP1
  obtain ⟨hP, hD⟩ := va_join (wr := wr) (w1 := w1 u) h.1 h.2.1 isC isR hC hR hn hdis hk1 hF hP1 hD1
  exact kk r u H1 locs1 hw ⟨hP, hD, hS⟩
theorem kk_Vi {S : Type} {post : Int32 → S → Prop} {w1 : S → va_W} (F : CallFix p m c cc nL s args Ts own) (hM : kCi l y wy rm G tysC (.ref b :: As) w0 post w1) (cw : CallW R s args own C index y bytes maxL ret wy rm 0 0 n)
    (hA : ∀ q, s.heap.size ≤ q → A q) (hK : va_K G vwCl tys s) (h : kAt G A s ws H locs) (isC isR isT : List Nat) (hC : isC.map (fun i => ws[i]?) = w0.map some) (hR : isR.map (fun i => ws[i]?) = wr.map some) (hT : isT.filterMap (fun i => tys[i]?) = tysC) (hn : va_nd isR = true) (hnC : va_nd isC = true) (hdis : ∀ i ∈ isR, i ∉ isC) (q0 ci : Nat) {q : vw_C} {fs : List Value} (hc : vwCl[ci]? = some q) (hq : q.1 = C) (he : w0[q0]? = some (b, .inr (ci, fs))) (hlen : As.length = n) (hsize : ls.size = nL) (hst : st0 = As.reverse ++ .ref b :: rest) (hW : (rest.map fun v => v.category).sum ≤ 8) (hdg : decode cc pc = .ok (.invokevirtual index, 3)) (hf : cells ≤ R.cells ∧ slots ≤ R.slots)
    (kk : ∀ (r : Int32) (u : S) (H1 : Heap) (locs1 : List Loc), post r u → kAt G A s (wr ++ w1 u) H1 locs1 → W p l e R s m args below meth c H1 locs1 cells slots Q (F0 m (pc + 3) ls (.int r :: rest))) : W p l e R s m args below meth c H locs cells slots Q (F0 m pc ls st0) := by
  have hPc : va_P G vwCl w0 H := h.1.sub isC (kk_pick hC)
  have hDc : va_D A w0 := h.2.1.sub isC hnC hC
  have hKc : va_K G vwCl tysC s := hK.sub isT hT
  subst hq
  exact kk_ri (va_runV (As := As) (rest := rest) (b := b) F (hM H.size) cw ⟨kP_blind, va_recv hKc hPc hc he, kP_pre hKc hPc hDc⟩ rfl hlen hsize hst (lv_room hW) hdg hf) hA h isC isR hC hR hn hdis kk
theorem kk_Si {S : Type} {post : Int32 → S → Prop} {w1 : S → va_W} (F : CallFix p m c cc nL s args Ts own) (hM : kCi l y wy rm G tysC As w0 post w1) (cw : CallB R s args own index y bytes maxL ret wy rm 0 0 n ∧ (Cond.static y).before args s = true)
    (hA : ∀ q, s.heap.size ≤ q → A q) (hK : va_K G vwCl tys s) (h : kAt G A s ws H locs) (isC isR isT : List Nat) (hC : isC.map (fun i => ws[i]?) = w0.map some) (hR : isR.map (fun i => ws[i]?) = wr.map some) (hT : isT.filterMap (fun i => tys[i]?) = tysC) (hn : va_nd isR = true) (hnC : va_nd isC = true) (hdis : ∀ i ∈ isR, i ∉ isC) (hlen : As.length = n) (hsize : ls.size = nL) (hst : st0 = As.reverse ++ rest) (hW : (rest.map fun v => v.category).sum ≤ 8) (hdg : decode cc pc = .ok (.invokestatic index, 3)) (hf : cells ≤ R.cells ∧ slots ≤ R.slots)
    (kk : ∀ (r : Int32) (u : S) (H1 : Heap) (locs1 : List Loc), post r u → kAt G A s (wr ++ w1 u) H1 locs1 → W p l e R s m args below meth c H1 locs1 cells slots Q (F0 m (pc + 3) ls (.int r :: rest))) : W p l e R s m args below meth c H locs cells slots Q (F0 m pc ls st0) := by
  have hPc : va_P G vwCl w0 H := h.1.sub isC (kk_pick hC)
  have hDc : va_D A w0 := h.2.1.sub isC hnC hC
  have hKc : va_K G vwCl tysC s := hK.sub isT hT
  exact kk_ri (va_runS (As := As) (rest := rest) F (hM H.size) cw ⟨kP_blind, kP_pre hKc hPc hDc⟩ rfl hlen hsize hst (lv_room hW) hdg hf) hA h isC isR hC hR hn hdis kk
theorem kk_rl {S : Type} {post : Int64 → S → Prop} {w1 : S → va_W} (hr : va_Run p l e R s m args below meth c H locs cells slots 0 0 (F0 m pc ls st0) rest (va_Ql post (fun u t => kB G tysC (va_A w0 H.size) (w1 u) t) (va_A w0 H.size) a0) (va_A w0 H.size))
    (hA : ∀ q, s.heap.size ≤ q → A q) (h : kAt G A s ws H locs) (isC isR : List Nat) (hC : isC.map (fun i => ws[i]?) = w0.map some) (hR : isR.map (fun i => ws[i]?) = wr.map some) (hn : va_nd isR = true) (hdis : ∀ i ∈ isR, i ∉ isC)
    (kk : ∀ (r : Int64) (u : S) (H1 : Heap) (locs1 : List Loc), post r u → kAt G A s (wr ++ w1 u) H1 locs1 → W p l e R s m args below meth c H1 locs1 cells slots Q (F0 m (pc + 3) ls (.long r :: rest))) : W p l e R s m args below meth c H locs cells slots Q (F0 m pc ls st0) := by
  have hF := va_free (wc := w0) h.2.1 h.2.2 hA isC hC
  refine va_calll hr h.2.2 (fun q _ h => hF q h) hF (fun r u t H1 locs1 ht hvm hw hB hz1 hk1 hS => ?_)
  obtain ⟨hP1, hK1, hD1⟩ := hB
  rw [ht] at hP1
  obtain ⟨hP, hD⟩ := va_join (wr := wr) (w1 := w1 u) h.1 h.2.1 isC isR hC hR hn hdis hk1 hF hP1 hD1
  exact kk r u H1 locs1 hw ⟨hP, hD, hS⟩
theorem kk_Vl {S : Type} {post : Int64 → S → Prop} {w1 : S → va_W} (F : CallFix p m c cc nL s args Ts own) (hM : kCl l y wy rm G tysC (.ref b :: As) w0 post w1) (cw : CallW R s args own C index y bytes maxL ret wy rm 0 0 n)
    (hA : ∀ q, s.heap.size ≤ q → A q) (hK : va_K G vwCl tys s) (h : kAt G A s ws H locs) (isC isR isT : List Nat) (hC : isC.map (fun i => ws[i]?) = w0.map some) (hR : isR.map (fun i => ws[i]?) = wr.map some) (hT : isT.filterMap (fun i => tys[i]?) = tysC) (hn : va_nd isR = true) (hnC : va_nd isC = true) (hdis : ∀ i ∈ isR, i ∉ isC) (q0 ci : Nat) {q : vw_C} {fs : List Value} (hc : vwCl[ci]? = some q) (hq : q.1 = C) (he : w0[q0]? = some (b, .inr (ci, fs))) (hlen : As.length = n) (hsize : ls.size = nL) (hst : st0 = As.reverse ++ .ref b :: rest) (hW : (rest.map fun v => v.category).sum ≤ 8) (hdg : decode cc pc = .ok (.invokevirtual index, 3)) (hf : cells ≤ R.cells ∧ slots ≤ R.slots)
    (kk : ∀ (r : Int64) (u : S) (H1 : Heap) (locs1 : List Loc), post r u → kAt G A s (wr ++ w1 u) H1 locs1 → W p l e R s m args below meth c H1 locs1 cells slots Q (F0 m (pc + 3) ls (.long r :: rest))) : W p l e R s m args below meth c H locs cells slots Q (F0 m pc ls st0) := by
  have hPc : va_P G vwCl w0 H := h.1.sub isC (kk_pick hC)
  have hDc : va_D A w0 := h.2.1.sub isC hnC hC
  have hKc : va_K G vwCl tysC s := hK.sub isT hT
  subst hq
  exact kk_rl (va_runV (As := As) (rest := rest) (b := b) F (hM H.size) cw ⟨kP_blind, va_recv hKc hPc hc he, kP_pre hKc hPc hDc⟩ rfl hlen hsize hst (lv_room hW) hdg hf) hA h isC isR hC hR hn hdis kk
theorem kk_Sl {S : Type} {post : Int64 → S → Prop} {w1 : S → va_W} (F : CallFix p m c cc nL s args Ts own) (hM : kCl l y wy rm G tysC As w0 post w1) (cw : CallB R s args own index y bytes maxL ret wy rm 0 0 n ∧ (Cond.static y).before args s = true)
    (hA : ∀ q, s.heap.size ≤ q → A q) (hK : va_K G vwCl tys s) (h : kAt G A s ws H locs) (isC isR isT : List Nat) (hC : isC.map (fun i => ws[i]?) = w0.map some) (hR : isR.map (fun i => ws[i]?) = wr.map some) (hT : isT.filterMap (fun i => tys[i]?) = tysC) (hn : va_nd isR = true) (hnC : va_nd isC = true) (hdis : ∀ i ∈ isR, i ∉ isC) (hlen : As.length = n) (hsize : ls.size = nL) (hst : st0 = As.reverse ++ rest) (hW : (rest.map fun v => v.category).sum ≤ 8) (hdg : decode cc pc = .ok (.invokestatic index, 3)) (hf : cells ≤ R.cells ∧ slots ≤ R.slots)
    (kk : ∀ (r : Int64) (u : S) (H1 : Heap) (locs1 : List Loc), post r u → kAt G A s (wr ++ w1 u) H1 locs1 → W p l e R s m args below meth c H1 locs1 cells slots Q (F0 m (pc + 3) ls (.long r :: rest))) : W p l e R s m args below meth c H locs cells slots Q (F0 m pc ls st0) := by
  have hPc : va_P G vwCl w0 H := h.1.sub isC (kk_pick hC)
  have hDc : va_D A w0 := h.2.1.sub isC hnC hC
  have hKc : va_K G vwCl tysC s := hK.sub isT hT
  exact kk_rl (va_runS (As := As) (rest := rest) F (hM H.size) cw ⟨kP_blind, kP_pre hKc hPc hDc⟩ rfl hlen hsize hst (lv_room hW) hdg hf) hA h isC isR hC hR hn hdis kk
theorem kk_rv {S : Type} {post : S → Prop} {w1 : S → va_W} (hr : va_Run p l e R s m args below meth c H locs cells slots 0 0 (F0 m pc ls st0) rest (va_Qv post (fun u t => kB G tysC (va_A w0 H.size) (w1 u) t) (va_A w0 H.size) a0) (va_A w0 H.size))
    (hA : ∀ q, s.heap.size ≤ q → A q) (h : kAt G A s ws H locs) (isC isR : List Nat) (hC : isC.map (fun i => ws[i]?) = w0.map some) (hR : isR.map (fun i => ws[i]?) = wr.map some) (hn : va_nd isR = true) (hdis : ∀ i ∈ isR, i ∉ isC)
    (kk : ∀ (u : S) (H1 : Heap) (locs1 : List Loc), post u → kAt G A s (wr ++ w1 u) H1 locs1 → W p l e R s m args below meth c H1 locs1 cells slots Q (F0 m (pc + 3) ls (rest))) : W p l e R s m args below meth c H locs cells slots Q (F0 m pc ls st0) := by
  have hF := va_free (wc := w0) h.2.1 h.2.2 hA isC hC
  refine va_callv hr h.2.2 (fun q _ h => hF q h) hF (fun u t H1 locs1 ht hvm hw hB hz1 hk1 hS => ?_)
  obtain ⟨hP1, hK1, hD1⟩ := hB
  rw [ht] at hP1
  obtain ⟨hP, hD⟩ := va_join (wr := wr) (w1 := w1 u) h.1 h.2.1 isC isR hC hR hn hdis hk1 hF hP1 hD1
  exact kk u H1 locs1 hw ⟨hP, hD, hS⟩
theorem kk_Vv {S : Type} {post : S → Prop} {w1 : S → va_W} (F : CallFix p m c cc nL s args Ts own) (hM : kCv l y wy rm G tysC (.ref b :: As) w0 post w1) (cw : CallW R s args own C index y bytes maxL ret wy rm 0 0 n)
    (hA : ∀ q, s.heap.size ≤ q → A q) (hK : va_K G vwCl tys s) (h : kAt G A s ws H locs) (isC isR isT : List Nat) (hC : isC.map (fun i => ws[i]?) = w0.map some) (hR : isR.map (fun i => ws[i]?) = wr.map some) (hT : isT.filterMap (fun i => tys[i]?) = tysC) (hn : va_nd isR = true) (hnC : va_nd isC = true) (hdis : ∀ i ∈ isR, i ∉ isC) (q0 ci : Nat) {q : vw_C} {fs : List Value} (hc : vwCl[ci]? = some q) (hq : q.1 = C) (he : w0[q0]? = some (b, .inr (ci, fs))) (hlen : As.length = n) (hsize : ls.size = nL) (hst : st0 = As.reverse ++ .ref b :: rest) (hW : (rest.map fun v => v.category).sum ≤ 8) (hdg : decode cc pc = .ok (.invokevirtual index, 3)) (hf : cells ≤ R.cells ∧ slots ≤ R.slots)
    (kk : ∀ (u : S) (H1 : Heap) (locs1 : List Loc), post u → kAt G A s (wr ++ w1 u) H1 locs1 → W p l e R s m args below meth c H1 locs1 cells slots Q (F0 m (pc + 3) ls (rest))) : W p l e R s m args below meth c H locs cells slots Q (F0 m pc ls st0) := by
  have hPc : va_P G vwCl w0 H := h.1.sub isC (kk_pick hC)
  have hDc : va_D A w0 := h.2.1.sub isC hnC hC
  have hKc : va_K G vwCl tysC s := hK.sub isT hT
  subst hq
  exact kk_rv (va_runV (As := As) (rest := rest) (b := b) F (hM H.size) cw ⟨kP_blind, va_recv hKc hPc hc he, kP_pre hKc hPc hDc⟩ rfl hlen hsize hst (lv_room hW) hdg hf) hA h isC isR hC hR hn hdis kk
theorem kk_Sv {S : Type} {post : S → Prop} {w1 : S → va_W} (F : CallFix p m c cc nL s args Ts own) (hM : kCv l y wy rm G tysC As w0 post w1) (cw : CallB R s args own index y bytes maxL ret wy rm 0 0 n ∧ (Cond.static y).before args s = true)
    (hA : ∀ q, s.heap.size ≤ q → A q) (hK : va_K G vwCl tys s) (h : kAt G A s ws H locs) (isC isR isT : List Nat) (hC : isC.map (fun i => ws[i]?) = w0.map some) (hR : isR.map (fun i => ws[i]?) = wr.map some) (hT : isT.filterMap (fun i => tys[i]?) = tysC) (hn : va_nd isR = true) (hnC : va_nd isC = true) (hdis : ∀ i ∈ isR, i ∉ isC) (hlen : As.length = n) (hsize : ls.size = nL) (hst : st0 = As.reverse ++ rest) (hW : (rest.map fun v => v.category).sum ≤ 8) (hdg : decode cc pc = .ok (.invokestatic index, 3)) (hf : cells ≤ R.cells ∧ slots ≤ R.slots)
    (kk : ∀ (u : S) (H1 : Heap) (locs1 : List Loc), post u → kAt G A s (wr ++ w1 u) H1 locs1 → W p l e R s m args below meth c H1 locs1 cells slots Q (F0 m (pc + 3) ls (rest))) : W p l e R s m args below meth c H locs cells slots Q (F0 m pc ls st0) := by
  have hPc : va_P G vwCl w0 H := h.1.sub isC (kk_pick hC)
  have hDc : va_D A w0 := h.2.1.sub isC hnC hC
  have hKc : va_K G vwCl tysC s := hK.sub isT hT
  exact kk_rv (va_runS (As := As) (rest := rest) F (hM H.size) cw ⟨kP_blind, kP_pre hKc hPc hDc⟩ rfl hlen hsize hst (lv_room hW) hdg hf) hA h isC isR hC hR hn hdis kk
end KC
section KE
variable {p : Program} {l : Launch} {e : Env} {R : Room} {s : State} {m : MethodId} {args : Array Value} {below : List Frame} {meth : Method} {c : Code} {H : Heap} {locs : List Loc}
variable {cc : ByteArray} {pc : Nat} {ls : Array Slot} {G : va_G} {tys : List (ClassId × FieldType)} {ws : va_W} {A : Nat → Prop}
theorem kk_ei {S : Type} {post : Int32 → S → Prop} {w1 : S → va_W} {v : Int32} (hx : p.tables.exec = Jvm.exec) (hb : c.code = cc) (hr : meth.sig.returnType = some .int) (hlocks : meth.locks = false) (hK : va_K G vwCl tys s) (h : kAt G A s ws H locs) (is : List Nat) (u : S) (hC : is.map (fun i => ws[i]?) = (w1 u).map some) (hn : va_nd is = true) (hdg : decode cc pc = .ok (.ireturn, 1)) (hpost : post v u) :
    W p l e R s m args below meth c H locs 0 0 (MQ below (va_Qi post (fun u t => kB G tys A (w1 u) t) A) args s 0 0 A) (F0 m pc ls [.int v]) := by
  have hP : va_P G vwCl (w1 u) H := h.1.sub is (kk_pick hC)
  have hD : va_D A (w1 u) := h.2.1.sub is hn hC
  exact W.iret hx hb hr (fun t ht hW => ⟨⟨v, u, rfl, hpost, by rw [ht]; exact hP, va_K.moved hW.alike hK, hD⟩, h.2.2.F ht⟩) h.2.2.2.2 hdg hlocks
theorem kk_ez {S : Type} {post : Int32 → S → Prop} {w1 : S → va_W} {v : Int32} (hx : p.tables.exec = Jvm.exec) (hb : c.code = cc) (hr : meth.sig.returnType = some .boolean) (hlocks : meth.locks = false) (h01 : v = 0 ∨ v = 1) (hK : va_K G vwCl tys s) (h : kAt G A s ws H locs) (is : List Nat) (u : S) (hC : is.map (fun i => ws[i]?) = (w1 u).map some) (hn : va_nd is = true) (hdg : decode cc pc = .ok (.ireturn, 1)) (hpost : post v u) :
    W p l e R s m args below meth c H locs 0 0 (MQ below (va_Qi post (fun u t => kB G tys A (w1 u) t) A) args s 0 0 A) (F0 m pc ls [.int v]) := by
  have hP : va_P G vwCl (w1 u) H := h.1.sub is (kk_pick hC)
  have hD : va_D A (w1 u) := h.2.1.sub is hn hC
  exact W.zret hx hb hr (by rcases h01 with h | h <;> subst h <;> rfl) (fun t ht hW => ⟨⟨v, u, rfl, hpost, by rw [ht]; exact hP, va_K.moved hW.alike hK, hD⟩, h.2.2.F ht⟩) h.2.2.2.2 hdg hlocks
theorem kk_el {S : Type} {post : Int64 → S → Prop} {w1 : S → va_W} {v : Int64} (hx : p.tables.exec = Jvm.exec) (hb : c.code = cc) (hr : meth.sig.returnType = some .long) (hlocks : meth.locks = false) (hK : va_K G vwCl tys s) (h : kAt G A s ws H locs) (is : List Nat) (u : S) (hC : is.map (fun i => ws[i]?) = (w1 u).map some) (hn : va_nd is = true) (hdg : decode cc pc = .ok (.lreturn, 1)) (hpost : post v u) :
    W p l e R s m args below meth c H locs 0 0 (MQ below (va_Ql post (fun u t => kB G tys A (w1 u) t) A) args s 0 0 A) (F0 m pc ls [.long v]) := by
  have hP : va_P G vwCl (w1 u) H := h.1.sub is (kk_pick hC)
  have hD : va_D A (w1 u) := h.2.1.sub is hn hC
  exact W.lret hx hb hr (fun t ht hW => ⟨⟨v, u, rfl, hpost, by rw [ht]; exact hP, va_K.moved hW.alike hK, hD⟩, h.2.2.F ht⟩) h.2.2.2.2 hdg hlocks
theorem kk_ev {S : Type} {post : S → Prop} {w1 : S → va_W} (hx : p.tables.exec = Jvm.exec) (hb : c.code = cc) (hr : meth.sig.returnType = none) (hlocks : meth.locks = false) (hK : va_K G vwCl tys s) (h : kAt G A s ws H locs) (is : List Nat) (u : S) (hC : is.map (fun i => ws[i]?) = (w1 u).map some) (hn : va_nd is = true) (hdg : decode cc pc = .ok (.return_, 1)) (hpost : post u) :
    W p l e R s m args below meth c H locs 0 0 (MQ below (va_Qv post (fun u t => kB G tys A (w1 u) t) A) args s 0 0 A) (F0 m pc ls []) := by
  have hP : va_P G vwCl (w1 u) H := h.1.sub is (kk_pick hC)
  have hD : va_D A (w1 u) := h.2.1.sub is hn hC
  exact W.vret hx hb hr (fun t ht hW => ⟨⟨u, rfl, hpost, by rw [ht]; exact hP, va_K.moved hW.alike hK, hD⟩, h.2.2.F ht⟩) h.2.2.2.2 hdg hlocks
end KE
/-- where a method of ours begins -/
theorem kk_begin {s : State} {G : va_G} {tys : List (ClassId × FieldType)} {w0 : va_W} {sz : Nat} (h : kP G tys w0 sz s) : sz = s.heap.size ∧ va_K G vwCl tys s ∧ kAt G (va_A w0 s.heap.size) s w0 s.heap [] ∧ (∀ q, s.heap.size ≤ q → va_A w0 s.heap.size q) := by
  obtain ⟨h1, h2, h3, h4⟩ := h
  exact ⟨h1.symm, h3, ⟨h2, h4.self, va_S.rf⟩, fun _ h => Or.inr h⟩
/-- cells in another order, or fewer -/
theorem kk_sub {G : va_G} {A : Nat → Prop} {s : State} {ws ws' : va_W} {H : Heap} {locs : List Loc} (h : kAt G A s ws H locs) (is : List Nat) (hC : is.map (fun i => ws[i]?) = ws'.map some) (hn : va_nd is = true) : kAt G A s ws' H locs := ⟨h.1.sub is (kk_pick hC), h.2.1.sub is hn hC, h.2.2⟩
theorem kk_ni (j n : Nat) : nI j + Int32.ofInt (n : Int) = nI (j + n) := by
  have h : Int32.ofInt (n : Int) = nI n := rfl
  rw [h, nI_add]
theorem kk_ne {x y : Int32} {k : Int} (h : ¬ x = y) (hy : y.toInt = k) : x.toInt ≠ k := fun e => h (Int32.toInt_inj.mp (e.trans hy.symm))
theorem kk_lk {a o d k v : Int} {r : List (Int × Int)} (h : k ≠ a) (hr : Op.lookupswitch.offset r d k = v) : Op.lookupswitch.offset ((a, o) :: r) d k = v := by
  rw [Op.lookupswitch.offset_cons, if_neg (fun e => h e.symm)]
  exact hr
theorem kk_case {g : Prop} {c : Prop} [Decidable c] (t : c → g) (f : ¬ c → g) : g := if h : c then t h else f h
/-- a row's contents count up to its length alone -/
theorem kk_ext_i {cA : ClassId} {n : Nat} {f g : Nat → Int32} (h : ∀ j, j < n → f j = g j) : vp_cell cA (n, .inl f) = vp_cell cA (n, .inl g) := by
  rw [vp_cell_i, vp_cell_i]
  unfold arrV
  have : (Array.ofFn (n := n) fun j => Value.int (f j.val)) = Array.ofFn (n := n) fun j => Value.int (g j.val) := by
    congr 1
    funext j
    rw [h j.val j.isLt]
  rw [this]
theorem kk_ext_l {cA : ClassId} {n : Nat} {f g : Nat → Int64} (h : ∀ j, j < n → f j = g j) : vp_cell cA (n, .inr (.inl f)) = vp_cell cA (n, .inr (.inl g)) := by
  rw [vp_cell_l, vp_cell_l]
  unfold arrV
  have : (Array.ofFn (n := n) fun j => Value.long (f j.val)) = Array.ofFn (n := n) fun j => Value.long (g j.val) := by
    congr 1
    funext j
    rw [h j.val j.isLt]
  rw [this]
theorem kk_reset {G : va_G} {A : Nat → Prop} {s : State} {ws : va_W} {H : Heap} {locs : List Loc} {q a : Nat} {cA : ClassId} {x y : vp_A} (hxy : vp_cell cA x = vp_cell cA y) (h : kAt G A s ws H locs) (he : ws[q]? = some (a, .inl (cA, x))) : kAt G A s (ws.set q (a, .inl (cA, y))) H locs := by
  refine ⟨?_, h.2.1.set he, h.2.2⟩
  intro k z hk
  have hl := (List.getElem?_eq_some_iff.mp he).1
  by_cases e : q = k
  · subst e
    rw [List.getElem?_set_self hl] at hk
    cases hk
    have h2 := h.1 q _ he
    show H[a]? = some (vp_cell cA y)
    rw [← hxy]
    exact h2
  · rw [List.getElem?_set_ne e] at hk
    exact h.1 k z hk
section KX
variable {p : Program} {l : Launch} {e : Env} {R : Room} {s : State} {m : MethodId} {args : Array Value} {below : List Frame} {meth : Method} {c : Code} {H : Heap} {locs : List Loc} {cells slots : Nat} {Q : State → Prop}
variable {cc : ByteArray} {pc : Nat} {ls : Array Slot} {rest : List Value} {G : va_G} {A : Nat → Prop} {a : Nat} {tys : List (ClassId × FieldType)} {ws ws' : va_W}
/-- a whole row of ints copied -/
theorem kk_copyi {N : Nat} (hx : p.tables.exec = Jvm.exec) (hb : c.code = cc) (hml : c.maxLocals = ls.size) {own : String} {index : Nat} (hown : s.vm.findClass own = some m.cls) (hlink : (Cond.methodLink own index arraycopyName).before args s = true) (hnat : (Cond.native arraycopyName).before args s = true) (hstat : (Cond.static arraycopyName).before args s = true) (hini : (Cond.initialized "java/lang/System").before args s = true)
    (hK : va_K G vwCl tys s) (h : kAt G A s ws H locs) (q0 q1 t0 t1 : Nat) {a0 : Nat} {c0 c1 : ClassId} {f g : Nat → Int32} (ha0 : ws[q0]? = some (a0, .inl (c0, N, .inl f))) (ha1 : ws[q1]? = some (a, .inl (c1, N, .inl g))) (ht0 : tys[t0]? = some (c0, .int)) (ht1 : tys[t1]? = some (c1, .int))
    {n : Int32} (h3 : ¬ n < 0) (h4 : n.toNatClampNeg = N) (hframes : 1 ≤ R.frames) (hlocals : (rest.map fun v => v.category).sum + (nativeFrameWords "java/lang/System" "arraycopy" 5 + 11) ≤ R.locals) (hdg : decode cc pc = .ok (.invokestatic index, 3)) (hw : ws.set q1 (a, .inl (c1, N, .inl f)) = ws')
    (kk : ∀ (H1 : Heap) (locs1 : List Loc), kAt G A s ws' H1 locs1 → W p l e R s m args below meth c H1 locs1 cells slots Q (F0 m (pc + 3) ls rest)) : W p l e R s m args below meth c H locs cells slots Q (F0 m pc ls (.int n :: .int 0 :: .ref a :: .int 0 :: .ref a0 :: rest)) := by
  subst hw
  have z0 : (0 : Int32).toNatClampNeg = 0 := rfl
  refine va_copyi hx hb hml hown hlink hnat hstat hini hK h.1 h.2.1 h.2.2 q0 q1 t0 t1 ha0 ha1 ht0 ht1 rfl (by decide) (by decide) h3 (by rw [z0, h4]; omega) (by rw [z0, h4]; omega) (fun i _ => rfl) hframes hlocals hdg (fun H1 locs1 x1 x2 x3 => kk H1 locs1 ?_)
  have hl := (List.getElem?_eq_some_iff.mp ha1).1
  have := kk_reset (q := q1) (a := a) (cA := c1) (y := (N, .inl f)) (kk_ext_i (fun j hj => by rw [pk_cpy_in (by omega) (by rw [h4]; omega)]; congr 1; rw [z0]; omega)) (⟨x1, x2, x3⟩ : kAt G A s _ H1 locs1) (List.getElem?_set_self hl)
  rwa [List.set_set] at this
end KX
theorem fm_blank : True := trivial
