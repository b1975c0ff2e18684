section
/-! What narrow_1 asks of every start: the class "[Ljava/lang/StackTraceElement;" is loaded there. -/
theorem ww_castable_found {a b : String} {args : Array Value} {s : State} (h : (Cond.not (Cond.castable a b)).before args s = true) : ∃ c : ClassId, s.vm.findClass a = some c := by
  cases hq : s.vm.findClass a with
  | some c => exact ⟨c, rfl⟩
  | none =>
    exfalso
    simp [Cond.before, Cond.holds, Cond.value, hq] at h
set_option maxRecDepth 100000 in
theorem ww_narrow_wants_class {args : Array Value} {s : State} (h : (Cond.and given_1 narrow_1).before args s = true) : ∃ c : ClassId, s.vm.findClass "[Ljava/lang/StackTraceElement;" = some c :=
  ww_castable_found (b := "java/lang/Integer") (flat_of_before _ h _ (by decide +kernel))
end
