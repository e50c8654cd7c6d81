set_option maxRecDepth 16384 in
theorem w15_start : AtStart classFile x code maxLocals ret World_1 tables_1 room_1 Calls_1 rest_1 Pre_1 launch0 start1.p0 start1.e0 (start1.aboutOf scv) ⟨0, 0⟩ start1.args0 Lib.HandBits.below0 :=
  ⟨lists_1, trivial, launch0.admits_env _ _ _, launch0.least_env, fairChoices_fair.cas, fairChoices_fair.clock, rfl, by decide +kernel, by decide +kernel,
    (Spec.applies_iff rfl).mpr ⟨rfl, rfl, rfl, by decide +kernel, by decide +kernel, by decide +kernel, launch0.hasRoom_least _ room_1 (by decide +kernel) (by decide +kernel) (by decide +kernel) (by decide +kernel) (by decide +kernel) (by decide +kernel), atoms_intro w15_words⟩,
    trivial, (show rest_1_c.before start1.args0 (start1.aboutOf scv) = true by decide +kernel), (show (Cond.and given_1 narrow_1).before start1.args0 (start1.aboutOf scv) = true by decide +kernel)⟩
theorem w15_ints : (start1.aboutOf scv).IntsAt 0 SCR := ⟨{ cls := 24, slots := scv, vm := .none }, by exact rfl, by exact rfl, ⟨(fun k h => by cases h), _, by exact rfl, _, by exact rfl⟩, by decide⟩

