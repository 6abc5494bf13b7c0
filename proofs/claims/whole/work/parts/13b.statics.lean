def sa_LEAST : Nat → Int32 := fun j => ([50, 1, 0, 0, 1, -90, 0, 50] : List Int32).getD j 0
def sa_MOST : Nat → Int32 := fun j => ([400, 9, 50, 4, 9, 90, 50, 400] : List Int32).getD j 0
def sa_ROW_POSTURES : Nat → Int32 := fun j => ([0, 4, 9] : List Int32).getD j 0
def sa_RULE_PLACES : Nat → Int32 := fun j => ([100000, 300000, 600000] : List Int32).getD j 0
def sa_AT_FIRST : Nat → Int32 := fun j => ([200, 2, 1, 2, 3, 0, 0, 200] : List Int32).getD j 0
/-- the class's static rows, which nobody writes -/
def st_E (ts : Nat → Nat) (A : Nat → Prop) (U : State) : Prop := (va_Z "SwingYard" "LEAST" "[I" (.ref (ts 0)) A U U.heap ∧ va_T .int (ts 0) 8 (fun j => .int (sa_LEAST j)) A U U.heap) ∧ (va_Z "SwingYard" "MOST" "[I" (.ref (ts 1)) A U U.heap ∧ va_T .int (ts 1) 8 (fun j => .int (sa_MOST j)) A U U.heap) ∧ (va_Z "SwingYard" "ROW_POSTURES" "[I" (.ref (ts 2)) A U U.heap ∧ va_T .int (ts 2) 3 (fun j => .int (sa_ROW_POSTURES j)) A U U.heap) ∧ (va_Z "SwingYard" "RULE_PLACES" "[I" (.ref (ts 3)) A U U.heap ∧ va_T .int (ts 3) 3 (fun j => .int (sa_RULE_PLACES j)) A U U.heap) ∧ (va_Z "SwingYard" "AT_FIRST" "[I" (.ref (ts 4)) A U U.heap ∧ va_T .int (ts 4) 8 (fun j => .int (sa_AT_FIRST j)) A U U.heap) ∧ True
theorem st_one {n : String} {t N : Nat} {f : Nat → Value} {A A' : Nat → Prop} {s U : State} {H : Heap} {locs : List Loc} (h : va_Z "SwingYard" n "[I" (.ref t) A s s.heap ∧ va_T .int t N f A s s.heap) (hS : va_S A s.heap H locs) (hU : U.heap = H) (hW : s.vm.Alike U.vm) (hA : ∀ q, A' q → A q) : va_Z "SwingYard" n "[I" (.ref t) A' U U.heap ∧ va_T .int t N f A' U U.heap := by
  subst hU
  exact ⟨(va_Z.moved hW (h.1.kept hS.2.1)).narrow hA, (va_T.moved hW (h.2.kept hS.2.1)).narrow hA⟩
theorem st_E.at {ts : Nat → Nat} {A A' : Nat → Prop} {s U : State} {H : Heap} {locs : List Loc} (h : st_E ts A s) (hS : va_S A s.heap H locs) (hU : U.heap = H) (hW : s.vm.Alike U.vm) (hA : ∀ q, A' q → A q) : st_E ts A' U :=
  ⟨st_one h.1 hS hU hW hA, st_one h.2.1 hS hU hW hA, st_one h.2.2.1 hS hU hW hA, st_one h.2.2.2.1 hS hU hW hA, st_one h.2.2.2.2.1 hS hU hW hA, trivial⟩
def kDi (l : Launch) (y : MethodName) (wy : List Cond) (rm : Room) (G : va_G) (tys : List (ClassId × FieldType)) (ts : Nat → Nat) (av : List Value) (w0 : va_W) {S : Type} (post : Int32 → S → Prop) (w1 : S → va_W) : Prop := ∀ sz : Nat, Met l y wy rm (va_Pc av (fun U => kP G tys w0 sz U ∧ st_E ts (va_A w0 sz) U)) (va_Qi post (fun u t => kB G tys (va_A w0 sz) (w1 u) t) (va_A w0 sz)) 0 0 (va_A w0 sz)
def kDv (l : Launch) (y : MethodName) (wy : List Cond) (rm : Room) (G : va_G) (tys : List (ClassId × FieldType)) (ts : Nat → Nat) (av : List Value) (w0 : va_W) {S : Type} (post : S → Prop) (w1 : S → va_W) : Prop := ∀ sz : Nat, Met l y wy rm (va_Pc av (fun U => kP G tys w0 sz U ∧ st_E ts (va_A w0 sz) U)) (va_Qv post (fun u t => kB G tys (va_A w0 sz) (w1 u) t) (va_A w0 sz)) 0 0 (va_A w0 sz)
theorem kD_blind {G : va_G} {tys : List (ClassId × FieldType)} {ts : Nat → Nat} {w0 : va_W} {sz : Nat} {av : List Value} : FrameBlind (va_Pc av (fun U => kP G tys w0 sz U ∧ st_E ts (va_A w0 sz) U)) := by
  intro a U g mk q
  obtain ⟨q0, ⟨q1, qP, qK, qD⟩, hE⟩ := q
  exact ⟨q0, ⟨q1, qP, va_K.moved (u := U) (U := U.calling g mk a) (Vm.Alike.refl U.vm) qK, qD⟩, hE.at (U := U.calling g mk a) (H := U.heap) (locs := []) va_S.rf rfl (Vm.Alike.refl U.vm) (fun _ h => h)⟩
section KDC
variable {p : Program} {l : Launch} {e : Env} {R : Room} {s : State} {m : MethodId} {args : Array Value} {below : List Frame} {meth : Method} {c : Code} {H : Heap} {locs : List Loc} {cells slots : Nat} {Q : State → Prop}
variable {cc : ByteArray} {pc : Nat} {ls : Array Slot} {rest st0 : List Value} {G : va_G} {A : Nat → Prop} {tys tysC : List (ClassId × FieldType)} {ws w0 wr : va_W} {a0 : Array Value} {y : MethodName} {wy Ts : List Cond} {rm : Room} {bytes : ByteArray} {maxL nL n index b : Nat} {ret : Option FieldType} {own C : String} {As : List Value} {ts : Nat → Nat}
theorem kk_ti {t N : Nat} {g : Nat → Int32} (hx : p.tables.exec = Jvm.exec) (hb : c.code = cc) (hT : va_T .int t N (fun j => .int (g j)) A s s.heap) (hS : va_S A s.heap H locs) {i : Int32} (j : Nat) (hj : i = nI j) (hn : j < N) (hN : N < 2 ^ 31) (hdg : decode cc pc = .ok (.iaload, 1))
    (kk : W p l e R s m args below meth c H locs cells slots Q (F0 m (pc + 1) ls (.int (g j) :: rest))) : W p l e R s m args below meth c H locs cells slots Q (F0 m pc ls (.int i :: .ref t :: rest)) := by
  obtain ⟨h1, h2⟩ := kk_in hj hn hN
  exact va_ti hx hb hT hS h1 (v := .int (g j)) (by rw [h2]) hdg kk
theorem kk_VDi {S : Type} {post : Int32 → S → Prop} {w1 : S → va_W} (F : CallFix p m c cc nL s args Ts own) (hM : kDi l y wy rm G tysC ts (.ref b :: As) w0 post w1) (cw : CallW R s args own C index y bytes maxL ret wy rm 0 0 n) (hE : st_E ts A s)
    (hA : ∀ q, s.heap.size ≤ q → A q) (hK : va_K G vwCl tys s) (h : kAt G A s ws H locs) (isC isR isT : List Nat) (hC : isC.map (fun i => ws[i]?) = w0.map some) (hR : isR.map (fun i => ws[i]?) = wr.map some) (hT : isT.filterMap (fun i => tys[i]?) = tysC) (hn : va_nd isR = true) (hnC : va_nd isC = true) (hdis : ∀ i ∈ isR, i ∉ isC) (q0 ci : Nat) {q : vw_C} {fs : List Value} (hc : vwCl[ci]? = some q) (hq : q.1 = C) (he : w0[q0]? = some (b, .inr (ci, fs))) (hlen : As.length = n) (hsize : ls.size = nL) (hst : st0 = As.reverse ++ .ref b :: rest) (hW : (rest.map fun v => v.category).sum ≤ 8) (hdg : decode cc pc = .ok (.invokevirtual index, 3)) (hf : cells ≤ R.cells ∧ slots ≤ R.slots)
    (kk : ∀ (r : Int32) (u : S) (H1 : Heap) (locs1 : List Loc), post r u → kAt G A s (wr ++ w1 u) H1 locs1 → W p l e R s m args below meth c H1 locs1 cells slots Q (F0 m (pc + 3) ls (.int r :: rest))) : W p l e R s m args below meth c H locs cells slots Q (F0 m pc ls st0) := by
  have hPc : va_P G vwCl w0 H := h.1.sub isC (kk_pick hC)
  have hDc : va_D A w0 := h.2.1.sub isC hnC hC
  have hKc : va_K G vwCl tysC s := hK.sub isT hT
  have hF := va_free (wc := w0) h.2.1 h.2.2 hA isC hC
  subst hq
  exact kk_ri (va_runV (As := As) (rest := rest) (b := b) F (hM H.size) cw ⟨kD_blind, va_recv hKc hPc hc he, fun U hU hW => ⟨rfl, (kP_pre (av := (.ref b :: As)) hKc hPc hDc U hU hW).2, hE.at h.2.2 hU hW.alike hF⟩⟩ rfl hlen hsize hst (lv_room hW) hdg hf) hA h isC isR hC hR hn hdis kk
theorem kk_VDv {S : Type} {post : S → Prop} {w1 : S → va_W} (F : CallFix p m c cc nL s args Ts own) (hM : kDv l y wy rm G tysC ts (.ref b :: As) w0 post w1) (cw : CallW R s args own C index y bytes maxL ret wy rm 0 0 n) (hE : st_E ts A s)
    (hA : ∀ q, s.heap.size ≤ q → A q) (hK : va_K G vwCl tys s) (h : kAt G A s ws H locs) (isC isR isT : List Nat) (hC : isC.map (fun i => ws[i]?) = w0.map some) (hR : isR.map (fun i => ws[i]?) = wr.map some) (hT : isT.filterMap (fun i => tys[i]?) = tysC) (hn : va_nd isR = true) (hnC : va_nd isC = true) (hdis : ∀ i ∈ isR, i ∉ isC) (q0 ci : Nat) {q : vw_C} {fs : List Value} (hc : vwCl[ci]? = some q) (hq : q.1 = C) (he : w0[q0]? = some (b, .inr (ci, fs))) (hlen : As.length = n) (hsize : ls.size = nL) (hst : st0 = As.reverse ++ .ref b :: rest) (hW : (rest.map fun v => v.category).sum ≤ 8) (hdg : decode cc pc = .ok (.invokevirtual index, 3)) (hf : cells ≤ R.cells ∧ slots ≤ R.slots)
    (kk : ∀ (u : S) (H1 : Heap) (locs1 : List Loc), post u → kAt G A s (wr ++ w1 u) H1 locs1 → W p l e R s m args below meth c H1 locs1 cells slots Q (F0 m (pc + 3) ls (rest))) : W p l e R s m args below meth c H locs cells slots Q (F0 m pc ls st0) := by
  have hPc : va_P G vwCl w0 H := h.1.sub isC (kk_pick hC)
  have hDc : va_D A w0 := h.2.1.sub isC hnC hC
  have hKc : va_K G vwCl tysC s := hK.sub isT hT
  have hF := va_free (wc := w0) h.2.1 h.2.2 hA isC hC
  subst hq
  exact kk_rv (va_runV (As := As) (rest := rest) (b := b) F (hM H.size) cw ⟨kD_blind, va_recv hKc hPc hc he, fun U hU hW => ⟨rfl, (kP_pre (av := (.ref b :: As)) hKc hPc hDc U hU hW).2, hE.at h.2.2 hU hW.alike hF⟩⟩ rfl hlen hsize hst (lv_room hW) hdg hf) hA h isC isR hC hR hn hdis kk
end KDC
