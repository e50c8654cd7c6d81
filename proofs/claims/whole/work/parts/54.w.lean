noncomputable def scv : Array Value := #[.int 0, .int 0, .int 1000, .int 0, .int 0, .int 0, .int 1, .int 0, .int 4, .int 0, .int 0, .int 0, .int 2, .int 0, .int 0, .int 0, .int 0, .int 0, .int 4, .int 1, .int 0, .int 0, .int 0, .int 0, .int 4, .int 1, .int 0, .int 0, .int 0, .int 0, .int 6, .int 1, .int 2, .int 0, .int 0, .int 0, .int 12, .int 0, .int 1, .int 1000, .int 1, .int 0, .int 12, .int 1, .int 0, .int 0, .int 0, .int 0, .int 13, .int 0, .int 0, .int 0, .int 0, .int 0]
theorem cd_vm {a : Array Value} {s s2 : State} {y : MethodName} {bytes : ByteArray} {ml : Nat} {rt : Option FieldType} (hv : s2.vm = s.vm) (h : (Cond.code y bytes ml rt).before a s = true) : (Cond.code y bytes ml rt).before a s2 = true := by
  simp only [Cond.before, Cond.holds, Cond.value, State.methodNamed?, hv] at h ⊢
  exact h
theorem cd_all {c : Cond} {a : Array Value} {s s2 : State} (hv : s2.vm = s.vm) (hc : su_isCode c = true) (h : c.before a s = true) : c.before a s2 = true := by
  cases c with
  | code y bytes ml rt => exact cd_vm hv h
  | _ => exact absurd hc (by simp [su_isCode])

set_option maxRecDepth 16384 in
theorem w15_1_0 : (tables_1_1.take 40).all (fun c => su_isCode c || c.before start1.args0 (start1.aboutOf scv)) = true := by decide +kernel
set_option maxRecDepth 16384 in
theorem w15_1_1 : ((tables_1_1.drop 40).take 40).all (fun c => su_isCode c || c.before start1.args0 (start1.aboutOf scv)) = true := by decide +kernel
set_option maxRecDepth 16384 in
theorem w15_1_2 : (((tables_1_1.drop 40).drop 40).take 40).all (fun c => su_isCode c || c.before start1.args0 (start1.aboutOf scv)) = true := by decide +kernel
set_option maxRecDepth 16384 in
theorem w15_1_3 : ((((tables_1_1.drop 40).drop 40).drop 40).take 40).all (fun c => su_isCode c || c.before start1.args0 (start1.aboutOf scv)) = true := by decide +kernel
set_option maxRecDepth 16384 in
theorem w15_1_4 : (((((tables_1_1.drop 40).drop 40).drop 40).drop 40).take 40).all (fun c => su_isCode c || c.before start1.args0 (start1.aboutOf scv)) = true := by decide +kernel
set_option maxRecDepth 16384 in
theorem w15_1_5 : (((((tables_1_1.drop 40).drop 40).drop 40).drop 40).drop 40).all (fun c => su_isCode c || c.before start1.args0 (start1.aboutOf scv)) = true := by decide +kernel
theorem w15_1 : tables_1_1.all (fun c => su_isCode c || c.before start1.args0 (start1.aboutOf scv)) = true := (start1.su_all_split _ 40 tables_1_1 w15_1_0 (start1.su_all_split _ 40 (tables_1_1.drop 40) w15_1_1 (start1.su_all_split _ 40 ((tables_1_1.drop 40).drop 40) w15_1_2 (start1.su_all_split _ 40 (((tables_1_1.drop 40).drop 40).drop 40) w15_1_3 (start1.su_all_split _ 40 ((((tables_1_1.drop 40).drop 40).drop 40).drop 40) w15_1_4 w15_1_5)))))
set_option maxRecDepth 16384 in
theorem w15_2_0 : (tables_1_2.take 40).all (fun c => su_isCode c || c.before start1.args0 (start1.aboutOf scv)) = true := by decide +kernel
set_option maxRecDepth 16384 in
theorem w15_2_1 : ((tables_1_2.drop 40).take 40).all (fun c => su_isCode c || c.before start1.args0 (start1.aboutOf scv)) = true := by decide +kernel
set_option maxRecDepth 16384 in
theorem w15_2_2 : (((tables_1_2.drop 40).drop 40).take 40).all (fun c => su_isCode c || c.before start1.args0 (start1.aboutOf scv)) = true := by decide +kernel
set_option maxRecDepth 16384 in
theorem w15_2_3 : ((((tables_1_2.drop 40).drop 40).drop 40).take 40).all (fun c => su_isCode c || c.before start1.args0 (start1.aboutOf scv)) = true := by decide +kernel
set_option maxRecDepth 16384 in
theorem w15_2_4 : (((((tables_1_2.drop 40).drop 40).drop 40).drop 40).take 40).all (fun c => su_isCode c || c.before start1.args0 (start1.aboutOf scv)) = true := by decide +kernel
set_option maxRecDepth 16384 in
theorem w15_2_5 : (((((tables_1_2.drop 40).drop 40).drop 40).drop 40).drop 40).all (fun c => su_isCode c || c.before start1.args0 (start1.aboutOf scv)) = true := by decide +kernel
theorem w15_2 : tables_1_2.all (fun c => su_isCode c || c.before start1.args0 (start1.aboutOf scv)) = true := (start1.su_all_split _ 40 tables_1_2 w15_2_0 (start1.su_all_split _ 40 (tables_1_2.drop 40) w15_2_1 (start1.su_all_split _ 40 ((tables_1_2.drop 40).drop 40) w15_2_2 (start1.su_all_split _ 40 (((tables_1_2.drop 40).drop 40).drop 40) w15_2_3 (start1.su_all_split _ 40 ((((tables_1_2.drop 40).drop 40).drop 40).drop 40) w15_2_4 w15_2_5)))))
set_option maxRecDepth 16384 in
theorem w15_3_0 : (tables_1_3.take 40).all (fun c => su_isCode c || c.before start1.args0 (start1.aboutOf scv)) = true := by decide +kernel
set_option maxRecDepth 16384 in
theorem w15_3_1 : ((tables_1_3.drop 40).take 40).all (fun c => su_isCode c || c.before start1.args0 (start1.aboutOf scv)) = true := by decide +kernel
set_option maxRecDepth 16384 in
theorem w15_3_2 : (((tables_1_3.drop 40).drop 40).take 40).all (fun c => su_isCode c || c.before start1.args0 (start1.aboutOf scv)) = true := by decide +kernel
set_option maxRecDepth 16384 in
theorem w15_3_3 : ((((tables_1_3.drop 40).drop 40).drop 40).take 40).all (fun c => su_isCode c || c.before start1.args0 (start1.aboutOf scv)) = true := by decide +kernel
set_option maxRecDepth 16384 in
theorem w15_3_4 : (((((tables_1_3.drop 40).drop 40).drop 40).drop 40).take 40).all (fun c => su_isCode c || c.before start1.args0 (start1.aboutOf scv)) = true := by decide +kernel
set_option maxRecDepth 16384 in
theorem w15_3_5 : (((((tables_1_3.drop 40).drop 40).drop 40).drop 40).drop 40).all (fun c => su_isCode c || c.before start1.args0 (start1.aboutOf scv)) = true := by decide +kernel
theorem w15_3 : tables_1_3.all (fun c => su_isCode c || c.before start1.args0 (start1.aboutOf scv)) = true := (start1.su_all_split _ 40 tables_1_3 w15_3_0 (start1.su_all_split _ 40 (tables_1_3.drop 40) w15_3_1 (start1.su_all_split _ 40 ((tables_1_3.drop 40).drop 40) w15_3_2 (start1.su_all_split _ 40 (((tables_1_3.drop 40).drop 40).drop 40) w15_3_3 (start1.su_all_split _ 40 ((((tables_1_3.drop 40).drop 40).drop 40).drop 40) w15_3_4 w15_3_5)))))
set_option maxRecDepth 16384 in
theorem w15_4_0 : (tables_1_4.take 40).all (fun c => su_isCode c || c.before start1.args0 (start1.aboutOf scv)) = true := by decide +kernel
set_option maxRecDepth 16384 in
theorem w15_4_1 : ((tables_1_4.drop 40).take 40).all (fun c => su_isCode c || c.before start1.args0 (start1.aboutOf scv)) = true := by decide +kernel
set_option maxRecDepth 16384 in
theorem w15_4_2 : (((tables_1_4.drop 40).drop 40).take 40).all (fun c => su_isCode c || c.before start1.args0 (start1.aboutOf scv)) = true := by decide +kernel
set_option maxRecDepth 16384 in
theorem w15_4_3 : ((((tables_1_4.drop 40).drop 40).drop 40).take 40).all (fun c => su_isCode c || c.before start1.args0 (start1.aboutOf scv)) = true := by decide +kernel
set_option maxRecDepth 16384 in
theorem w15_4_4 : (((((tables_1_4.drop 40).drop 40).drop 40).drop 40).take 40).all (fun c => su_isCode c || c.before start1.args0 (start1.aboutOf scv)) = true := by decide +kernel
set_option maxRecDepth 16384 in
theorem w15_4_5 : (((((tables_1_4.drop 40).drop 40).drop 40).drop 40).drop 40).all (fun c => su_isCode c || c.before start1.args0 (start1.aboutOf scv)) = true := by decide +kernel
theorem w15_4 : tables_1_4.all (fun c => su_isCode c || c.before start1.args0 (start1.aboutOf scv)) = true := (start1.su_all_split _ 40 tables_1_4 w15_4_0 (start1.su_all_split _ 40 (tables_1_4.drop 40) w15_4_1 (start1.su_all_split _ 40 ((tables_1_4.drop 40).drop 40) w15_4_2 (start1.su_all_split _ 40 (((tables_1_4.drop 40).drop 40).drop 40) w15_4_3 (start1.su_all_split _ 40 ((((tables_1_4.drop 40).drop 40).drop 40).drop 40) w15_4_4 w15_4_5)))))
set_option maxRecDepth 16384 in
theorem w15_5_0 : (tables_1_5.take 40).all (fun c => su_isCode c || c.before start1.args0 (start1.aboutOf scv)) = true := by decide +kernel
set_option maxRecDepth 16384 in
theorem w15_5_1 : ((tables_1_5.drop 40).take 40).all (fun c => su_isCode c || c.before start1.args0 (start1.aboutOf scv)) = true := by decide +kernel
set_option maxRecDepth 16384 in
theorem w15_5_2 : (((tables_1_5.drop 40).drop 40).take 40).all (fun c => su_isCode c || c.before start1.args0 (start1.aboutOf scv)) = true := by decide +kernel
set_option maxRecDepth 16384 in
theorem w15_5_3 : ((((tables_1_5.drop 40).drop 40).drop 40).take 40).all (fun c => su_isCode c || c.before start1.args0 (start1.aboutOf scv)) = true := by decide +kernel
set_option maxRecDepth 16384 in
theorem w15_5_4 : (((((tables_1_5.drop 40).drop 40).drop 40).drop 40).take 40).all (fun c => su_isCode c || c.before start1.args0 (start1.aboutOf scv)) = true := by decide +kernel
set_option maxRecDepth 16384 in
theorem w15_5_5 : (((((tables_1_5.drop 40).drop 40).drop 40).drop 40).drop 40).all (fun c => su_isCode c || c.before start1.args0 (start1.aboutOf scv)) = true := by decide +kernel
theorem w15_5 : tables_1_5.all (fun c => su_isCode c || c.before start1.args0 (start1.aboutOf scv)) = true := (start1.su_all_split _ 40 tables_1_5 w15_5_0 (start1.su_all_split _ 40 (tables_1_5.drop 40) w15_5_1 (start1.su_all_split _ 40 ((tables_1_5.drop 40).drop 40) w15_5_2 (start1.su_all_split _ 40 (((tables_1_5.drop 40).drop 40).drop 40) w15_5_3 (start1.su_all_split _ 40 ((((tables_1_5.drop 40).drop 40).drop 40).drop 40) w15_5_4 w15_5_5)))))
set_option maxRecDepth 16384 in
theorem w15_6_0 : (tables_1_6.take 40).all (fun c => su_isCode c || c.before start1.args0 (start1.aboutOf scv)) = true := by decide +kernel
set_option maxRecDepth 16384 in
theorem w15_6_1 : ((tables_1_6.drop 40).take 40).all (fun c => su_isCode c || c.before start1.args0 (start1.aboutOf scv)) = true := by decide +kernel
set_option maxRecDepth 16384 in
theorem w15_6_2 : (((tables_1_6.drop 40).drop 40).take 40).all (fun c => su_isCode c || c.before start1.args0 (start1.aboutOf scv)) = true := by decide +kernel
set_option maxRecDepth 16384 in
theorem w15_6_3 : ((((tables_1_6.drop 40).drop 40).drop 40).take 40).all (fun c => su_isCode c || c.before start1.args0 (start1.aboutOf scv)) = true := by decide +kernel
set_option maxRecDepth 16384 in
theorem w15_6_4 : ((((tables_1_6.drop 40).drop 40).drop 40).drop 40).all (fun c => su_isCode c || c.before start1.args0 (start1.aboutOf scv)) = true := by decide +kernel
theorem w15_6 : tables_1_6.all (fun c => su_isCode c || c.before start1.args0 (start1.aboutOf scv)) = true := (start1.su_all_split _ 40 tables_1_6 w15_6_0 (start1.su_all_split _ 40 (tables_1_6.drop 40) w15_6_1 (start1.su_all_split _ 40 ((tables_1_6.drop 40).drop 40) w15_6_2 (start1.su_all_split _ 40 (((tables_1_6.drop 40).drop 40).drop 40) w15_6_3 w15_6_4))))
theorem w15_words : ∀ c ∈ (Cond.code x code maxLocals ret :: tables_1), c.before start1.args0 (start1.aboutOf scv) = true := by
  intro c hc
  have h0 := start1.words c hc
  by_cases hi : su_isCode c = true
  · exact cd_all (s := start1.about) rfl hi h0
  · rcases List.mem_cons.mp hc with h | h
    · rw [h] at hi; exact absurd rfl hi
    · have key : ∀ l : List Cond, l.all (fun c => su_isCode c || c.before start1.args0 (start1.aboutOf scv)) = true → c ∈ l → c.before start1.args0 (start1.aboutOf scv) = true := fun l hl hm => by
        have h2 := List.all_eq_true.mp hl c hm
        simpa [hi] using h2
      have h1 : c ∈ tables_1_1 ++ (tables_1_2 ++ (tables_1_3 ++ (tables_1_4 ++ (tables_1_5 ++ (tables_1_6))))) := h
      rcases List.mem_append.mp h1 with h2 | h1
      · exact key _ w15_1 h2
      rcases List.mem_append.mp h1 with h2 | h1
      · exact key _ w15_2 h2
      rcases List.mem_append.mp h1 with h2 | h1
      · exact key _ w15_3 h2
      rcases List.mem_append.mp h1 with h2 | h1
      · exact key _ w15_4 h2
      rcases List.mem_append.mp h1 with h2 | h1
      · exact key _ w15_5 h2
      exact key _ w15_6 h1
