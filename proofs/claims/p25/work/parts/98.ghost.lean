/-! A START THAT THE STATEMENT ALLOWS AND AT WHICH THE CLASS'S CONSTRUCTOR CAN'T GO ON: the witness's own start, with one class more in the tables (an array of ints whose clone() is a method of its own, a byte that is no instruction), of which the row AT_FIRST is. -/
def gh_cls : Class := { start1.cArr "ghost" 14 .int with methods := #[Lib.HandJ.method "clone" "()Ljava/lang/Object;" [] (some (.object "java/lang/Object")) 0x1 1 ⟨#[0xfe]⟩] }
def gh_state : State := { start1.about with vm := { start1.about.vm with classes := start1.about.vm.classes.push gh_cls }, heap := start1.about.heap.set! 2 { cls := 22, slots := #[.int (200), .int (2), .int (1), .int (2), .int (3), .int (0), .int (0), .int (200)], vm := .none } }
set_option maxRecDepth 16384 in
theorem gh_narrow : (Cond.and given_1 narrow_1).before start1.args0 gh_state = true := by decide +kernel
set_option maxRecDepth 16384 in
theorem gh_rest : rest_1_c.before start1.args0 gh_state = true := by decide +kernel
set_option maxRecDepth 16384 in
theorem gh_heap : heapFits gh_state = true := by decide +kernel
set_option maxRecDepth 16384 in
theorem gh_args : argsFit gh_state.vm ⟨0, 0⟩ start1.args0 = true := by decide +kernel
set_option maxRecDepth 16384 in
theorem gh_ref : (Term.static "SwingYard" "AT_FIRST" "[I").eval start1.args0 gh_state none [] gh_state = some (.ref 2) := by decide +kernel
theorem gh_cell : (gh_state.heap[2]?).map (fun c => c.cls) = some 22 := by decide +kernel
set_option maxRecDepth 16384 in
theorem gh_clone : gh_state.methodFound? "[I" "clone" "()Ljava/lang/Object;" = some ⟨1, 1⟩ := by decide +kernel
/-- 5.4.6 selects, for that row, its class's own method -/
theorem gh_select : (match selectMethod start1.e0.platform gh_state.vm 22 ⟨1, 1⟩ with | .method m => decide (m = ⟨22, 0⟩) | _ => false) = true := by decide +kernel
theorem gh_find {n : String} {c : ClassId} (h : start1.about.vm.findClass n = some c) : gh_state.vm.findClass n = some c := by
  unfold Vm.findClass at h ⊢
  show (start1.about.vm.classes.push gh_cls).findIdx? _ = _
  rw [Array.findIdx?_push, h]
  rfl
theorem gh_at {c : ClassId} {k : Class} (h : start1.about.vm.classes[c]? = some k) : gh_state.vm.classes[c]? = some k := by
  show (start1.about.vm.classes.push gh_cls)[c]? = some k
  have hc : c < start1.about.vm.classes.size := (Array.getElem?_eq_some_iff.mp h).1
  rw [Array.getElem?_push, if_neg (Nat.ne_of_lt hc)]
  exact h
theorem gh_meth {y : MethodName} {meth : Method} (h : (start1.about.methodNamed? y).bind start1.about.vm.method? = some meth) : (gh_state.methodNamed? y).bind gh_state.vm.method? = some meth := by
  obtain ⟨m, h1, h2⟩ := Option.bind_eq_some_iff.mp h
  refine Option.bind_eq_some_iff.mpr ⟨m, ?_, ?_⟩
  · unfold State.methodNamed? at h1 ⊢
    obtain ⟨c, f1, f2⟩ := Option.bind_eq_some_iff.mp h1
    obtain ⟨k, f3, f4⟩ := Option.bind_eq_some_iff.mp f2
    refine Option.bind_eq_some_iff.mpr ⟨c, gh_find f1, Option.bind_eq_some_iff.mpr ⟨k, gh_at f3, f4⟩⟩
  · unfold Vm.method? at h2 ⊢
    obtain ⟨k, f3, f4⟩ := Option.bind_eq_some_iff.mp h2
    exact Option.bind_eq_some_iff.mpr ⟨k, gh_at f3, f4⟩
theorem gh_code {a : Array Value} {y : MethodName} {bytes : ByteArray} {n : Nat} {r : Option FieldType} (h : (Cond.code y bytes n r).before a start1.about = true) : (Cond.code y bytes n r).before a gh_state = true := by
  simp only [Cond.before, Cond.holds, Cond.value] at h ⊢
  cases hm : (start1.about.methodNamed? y).bind start1.about.vm.method? with
  | none => rw [hm] at h; simp at h
  | some meth => rw [hm] at h; rw [gh_meth hm]; exact h
theorem gh_of {l : List Cond} (h1 : ∀ c ∈ l, c.before start1.args0 start1.about = true) (h2 : l.all (fun c => su_isCode c || c.before start1.args0 gh_state) = true) : ∀ c ∈ l, c.before start1.args0 gh_state = true := by
  intro c hc
  have h := List.all_eq_true.mp h2 c hc
  cases c with
  | code y bytes n r => exact gh_code (h1 _ hc)
  | _ => simpa [su_isCode] using h
set_option maxRecDepth 16384 in
theorem gh_o1 : tables_1_1.all (fun c => su_isCode c || c.before start1.args0 gh_state) = true := by decide +kernel
set_option maxRecDepth 16384 in
theorem gh_o2 : tables_1_2.all (fun c => su_isCode c || c.before start1.args0 gh_state) = true := by decide +kernel
set_option maxRecDepth 16384 in
theorem gh_o3 : tables_1_3.all (fun c => su_isCode c || c.before start1.args0 gh_state) = true := by decide +kernel
set_option maxRecDepth 16384 in
theorem gh_o4 : tables_1_4.all (fun c => su_isCode c || c.before start1.args0 gh_state) = true := by decide +kernel
set_option maxRecDepth 16384 in
theorem gh_o5 : tables_1_5.all (fun c => su_isCode c || c.before start1.args0 gh_state) = true := by decide +kernel
theorem gh_words : ∀ c ∈ (Cond.code x code maxLocals ret :: tables_1), c.before start1.args0 gh_state = true := by
  intro c hc
  rcases List.mem_cons.mp hc with h | h
  · rw [h]; exact gh_code (start1.words _ List.mem_cons_self)
  · have h1 : c ∈ tables_1_1 ++ (tables_1_2 ++ (tables_1_3 ++ (tables_1_4 ++ tables_1_5))) := h
    rcases List.mem_append.mp h1 with h2 | h1
    · exact gh_of start1.words_1 gh_o1 c h2
    rcases List.mem_append.mp h1 with h2 | h1
    · exact gh_of start1.words_2 gh_o2 c h2
    rcases List.mem_append.mp h1 with h2 | h1
    · exact gh_of start1.words_3 gh_o3 c h2
    rcases List.mem_append.mp h1 with h2 | h1
    · exact gh_of start1.words_4 gh_o4 c h2
    exact gh_of start1.words_5 gh_o5 c h1
set_option maxRecDepth 16384 in
/-- the Statement allows this start -/
theorem gh_atStart : AtStart classFile x code maxLocals ret World_1 tables_1 room_1 Calls_1 rest_1 Pre_1 launch0 start1.p0 start1.e0 gh_state ⟨0, 0⟩ start1.args0 Lib.HandBits.below0 :=
  ⟨lists_1, trivial, launch0.admits_env _ _ _, launch0.least_env, fairChoices_fair.cas, fairChoices_fair.clock, rfl, gh_args, gh_heap,
    (Spec.applies_iff rfl).mpr ⟨rfl, rfl, rfl, by decide +kernel, by decide +kernel, by decide +kernel, launch0.hasRoom_least _ room_1 (by decide +kernel) (by decide +kernel) (by decide +kernel) (by decide +kernel) (by decide +kernel) (by decide +kernel), atoms_intro gh_words⟩,
    trivial, gh_rest, gh_narrow⟩
