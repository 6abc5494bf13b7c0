section
/-! A START THAT THE STATEMENT ALLOWS AND AT WHICH THE CLASS'S CONSTRUCTOR CAN'T GO ON: the witness's own start, with one class more in the tables (an array of ints whose clone() is a method of its own, a byte that is no instruction), of which the row AT_FIRST is. -/
def gh_cls : Class := { start1.cArr "ghost" 14 .int with methods := #[Lib.HandJ.method "clone" "()Ljava/lang/Object;" [] (some (.object "java/lang/Object")) 0x1 1 ⟨#[0xfe]⟩] }
def gh_state : State := { start1.about with vm := { start1.about.vm with classes := start1.about.vm.classes.push gh_cls }, heap := start1.about.heap.set! 2 { cls := 22, slots := #[.int (200), .int (2), .int (1), .int (2), .int (3), .int (0), .int (0), .int (200)], vm := .none } }
set_option maxRecDepth 16384 in
theorem gh_narrow : (Cond.and given_1 narrow_1).before start1.args0 gh_state = true := by decide +kernel
set_option maxRecDepth 16384 in
theorem gh_rest : rest_1_c.before start1.args0 gh_state = true := by decide +kernel
set_option maxRecDepth 16384 in
theorem gh_heap : heapFits gh_state = true := by decide +kernel
set_option maxRecDepth 16384 in
theorem gh_args : argsFit gh_state.vm ⟨0, 0⟩ start1.args0 = true := by decide +kernel
set_option maxRecDepth 16384 in
theorem gh_ref : (Term.static "SwingYard" "AT_FIRST" "[I").eval start1.args0 gh_state none [] gh_state = some (.ref 2) := by decide +kernel
theorem gh_cell : (gh_state.heap[2]?).map (fun c => c.cls) = some 22 := by decide +kernel
set_option maxRecDepth 16384 in
theorem gh_clone : gh_state.methodFound? "[I" "clone" "()Ljava/lang/Object;" = some ⟨1, 1⟩ := by decide +kernel
/-- 5.4.6 selects, for that row, its class's own method -/
theorem gh_select : (match selectMethod start1.e0.platform gh_state.vm 22 ⟨1, 1⟩ with | .method m => decide (m = ⟨22, 0⟩) | _ => false) = true := by decide +kernel
theorem gh_find {n : String} {c : ClassId} (h : start1.about.vm.findClass n = some c) : gh_state.vm.findClass n = some c := by
  unfold Vm.findClass at h ⊢
  show (start1.about.vm.classes.push gh_cls).findIdx? _ = _
  rw [Array.findIdx?_push, h]
  rfl
theorem gh_at {c : ClassId} {k : Class} (h : start1.about.vm.classes[c]? = some k) : gh_state.vm.classes[c]? = some k := by
  show (start1.about.vm.classes.push gh_cls)[c]? = some k
  have hc : c < start1.about.vm.classes.size := (Array.getElem?_eq_some_iff.mp h).1
  rw [Array.getElem?_push, if_neg (Nat.ne_of_lt hc)]
  exact h
theorem gh_meth {y : MethodName} {meth : Method} (h : (start1.about.methodNamed? y).bind start1.about.vm.method? = some meth) : (gh_state.methodNamed? y).bind gh_state.vm.method? = some meth := by
  obtain ⟨m, h1, h2⟩ := Option.bind_eq_some_iff.mp h
  refine Option.bind_eq_some_iff.mpr ⟨m, ?_, ?_⟩
  · unfold State.methodNamed? at h1 ⊢
    obtain ⟨c, f1, f2⟩ := Option.bind_eq_some_iff.mp h1
    obtain ⟨k, f3, f4⟩ := Option.bind_eq_some_iff.mp f2
    refine Option.bind_eq_some_iff.mpr ⟨c, gh_find f1, Option.bind_eq_some_iff.mpr ⟨k, gh_at f3, f4⟩⟩
  · unfold Vm.method? at h2 ⊢
    obtain ⟨k, f3, f4⟩ := Option.bind_eq_some_iff.mp h2
    exact Option.bind_eq_some_iff.mpr ⟨k, gh_at f3, f4⟩
theorem gh_code {a : Array Value} {y : MethodName} {bytes : ByteArray} {n : Nat} {r : Option FieldType} (h : (Cond.code y bytes n r).before a start1.about = true) : (Cond.code y bytes n r).before a gh_state = true := by
  simp only [Cond.before, Cond.holds, Cond.value] at h ⊢
  cases hm : (start1.about.methodNamed? y).bind start1.about.vm.method? with
  | none => rw [hm] at h; simp at h
  | some meth => rw [hm] at h; rw [gh_meth hm]; exact h
theorem gh_of {l : List Cond} (h1 : ∀ c ∈ l, c.before start1.args0 start1.about = true) (h2 : l.all (fun c => su_isCode c || c.before start1.args0 gh_state) = true) : ∀ c ∈ l, c.before start1.args0 gh_state = true := by
  intro c hc
  have h := List.all_eq_true.mp h2 c hc
  cases c with
  | code y bytes n r => exact gh_code (h1 _ hc)
  | _ => simpa [su_isCode] using h
set_option maxRecDepth 16384 in
theorem gh_o1 : tables_1_1.all (fun c => su_isCode c || c.before start1.args0 gh_state) = true := by decide +kernel
set_option maxRecDepth 16384 in
theorem gh_o2 : tables_1_2.all (fun c => su_isCode c || c.before start1.args0 gh_state) = true := by decide +kernel
set_option maxRecDepth 16384 in
theorem gh_o3 : tables_1_3.all (fun c => su_isCode c || c.before start1.args0 gh_state) = true := by decide +kernel
set_option maxRecDepth 16384 in
theorem gh_o4 : tables_1_4.all (fun c => su_isCode c || c.before start1.args0 gh_state) = true := by decide +kernel
set_option maxRecDepth 16384 in
theorem gh_o5 : tables_1_5.all (fun c => su_isCode c || c.before start1.args0 gh_state) = true := by decide +kernel
theorem gh_words : ∀ c ∈ (Cond.code x code maxLocals ret :: tables_1), c.before start1.args0 gh_state = true := by
  intro c hc
  rcases List.mem_cons.mp hc with h | h
  · rw [h]; exact gh_code (start1.words _ List.mem_cons_self)
  · have h1 : c ∈ tables_1_1 ++ (tables_1_2 ++ (tables_1_3 ++ (tables_1_4 ++ tables_1_5))) := h
    rcases List.mem_append.mp h1 with h2 | h1
    · exact gh_of start1.words_1 gh_o1 c h2
    rcases List.mem_append.mp h1 with h2 | h1
    · exact gh_of start1.words_2 gh_o2 c h2
    rcases List.mem_append.mp h1 with h2 | h1
    · exact gh_of start1.words_3 gh_o3 c h2
    rcases List.mem_append.mp h1 with h2 | h1
    · exact gh_of start1.words_4 gh_o4 c h2
    exact gh_of start1.words_5 gh_o5 c h1
set_option maxRecDepth 16384 in
/-- the Statement allows this start -/
theorem gh_atStart : AtStart classFile x code maxLocals ret World_1 tables_1 room_1 Calls_1 rest_1 Pre_1 launch0 start1.p0 start1.e0 gh_state ⟨0, 0⟩ start1.args0 Lib.HandBits.below0 :=
  ⟨lists_1, trivial, launch0.admits_env _ _ _, launch0.least_env, fairChoices_fair.cas, fairChoices_fair.clock, rfl, gh_args, gh_heap,
    (Spec.applies_iff rfl).mpr ⟨rfl, rfl, rfl, by decide +kernel, by decide +kernel, by decide +kernel, launch0.hasRoom_least _ room_1 (by decide +kernel) (by decide +kernel) (by decide +kernel) (by decide +kernel) (by decide +kernel) (by decide +kernel), atoms_intro gh_words⟩,
    trivial, gh_rest, gh_narrow⟩
end
section
/-! the run from that start: inside the law's call for 17 steps, then the machine stops: it never returns -/
theorem gh_add (tb : Tables) (e : Env) : ∀ (a b : Nat) (s : State), stepsAlone tb e (a + b) s = stepsAlone tb e b (stepsAlone tb e a s)
  | 0, b, s => by rw [Nat.zero_add]; rfl
  | a + 1, b, s => by
    rw [Nat.add_right_comm, stepsAlone, stepsAlone]
    split
    · exact gh_add tb e a b _
    · rename_i h
      cases b with
      | zero => rfl
      | succ b => 
        rw [stepsAlone]
        split
        · rename_i h1 h2 h3
          exact absurd h3 (fun _ => h h1 h2 h3)
        · rfl
set_option maxRecDepth 16384 in
theorem gh_stop : decide ((stepsAlone start1.p0.tables start1.e0 20 gh_state).status = .running) = false := by decide +kernel
set_option maxRecDepth 16384 in
theorem gh_in : (List.range 20).all (fun n => decide (Lib.HandBits.below0.length < (stepsAlone start1.p0.tables start1.e0 n gh_state).frames.length)) = true := by decide +kernel
theorem gh_stay (k : Nat) : (stepsAlone start1.p0.tables start1.e0 (20 + k) gh_state).status ≠ .running := by
  have h := of_decide_eq_false gh_stop
  rw [gh_add]
  generalize stepsAlone start1.p0.tables start1.e0 20 gh_state = S at h
  cases k with
  | zero => exact h
  | succ k =>
    rw [stepsAlone]
    split
    · rename_i h1 _ _
      exact absurd h1 h
    · exact h
theorem gh_len {s : State} {v : Option Value} (h : Ended s Lib.HandBits.below0 (.returned v)) : s.frames.length = Lib.HandBits.below0.length := by
  have h2 : s.frames = .native { ({ method := ⟨0, 0⟩, args := #[] } : NFrame) with awaiting := false, answer := some (.returned v) } :: [] := h
  rw [h2]; rfl
/-- the claim, as it is stated, is false -/
theorem gh_false : ¬ Claimed_1_1 := by
  intro hC
  obtain ⟨_, _, had, _, hcas, hclk, hfr, hargs, hheap, happ, hcalls, hrest, hpre⟩ := gh_atStart
  obtain ⟨n, o, hW, hst, hE, hP, -⟩ := hC launch0 rfl lists_1 trivial start1.p0 start1.e0 had hcas hclk gh_state ⟨0, 0⟩ start1.args0 Lib.HandBits.below0 hfr hargs hheap happ ⟨hcalls, hrest, hpre⟩
  by_cases hn : n < 20
  · have h1 := of_decide_eq_true (List.all_eq_true.mp gh_in n (List.mem_range.mpr hn))
    cases o with
    | returned v => have := gh_len hE; omega
    | threw a =>
      have : limb_1_1.after start1.args0 gh_state (.threw a) (stepsAlone start1.p0.tables start1.e0 n gh_state) = true := hP
      simp [limb_1_1, Cond.after, Cond.holds, Cond.value] at this
  · obtain ⟨k, rfl⟩ := Nat.exists_eq_add_of_le (Nat.le_of_not_lt hn)
    exact gh_stay k hst
end
section
/-- what is owed (i_vc's statement) can't be proved: its first half is false -/
theorem zz_no : ¬ (Claimed_1_1 ∧ Claimed_1_2) := fun h => gh_false h.1
end
