section
/-! REPORT T1 in Lean: a start whose class table doesn't hold the array class of StackTraceElement doesn't meet the Statement's premise narrow_1_2 (nor narrow_1, nor Pre_1): three of its atoms are 'not castable' of that class. The printed witness is such a start. -/
theorem t1_narrow {args : Array Value} {s : State} (h : s.vm.findClass "[Ljava/lang/StackTraceElement;" = none) : narrow_1_2.before args s ≠ true := by
  intro hb
  have hs := flat_of_before _ hb
  have h1 : (Cond.not (Cond.castable "[Ljava/lang/StackTraceElement;" "java/lang/String")).before args s = true := hs _ (by decide +kernel)
  simp [Cond.before, Cond.holds, Cond.value, h] at h1
theorem t1_all {args : Array Value} {s : State} (h : s.vm.findClass "[Ljava/lang/StackTraceElement;" = none) : narrow_1.before args s ≠ true := by
  intro hb
  have hs := flat_of_before _ hb
  have h1 : (Cond.not (Cond.castable "[Ljava/lang/StackTraceElement;" "java/lang/String")).before args s = true := hs _ (by decide +kernel)
  simp [Cond.before, Cond.holds, Cond.value, h] at h1
end
