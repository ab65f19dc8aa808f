section
/-! ===== a start without the array class of StackTraceElement meets no Pre_1 (evidence for REPORT.md, 'TRANSLATOR'; serves no owed statement) ===== -/
theorem st_lack (args : Array Jvm.Value) (s : Jvm.State) (h : s.vm.findClass "[Ljava/lang/StackTraceElement;" = none) (t : String) :
    (Jvm.Cond.not (Jvm.Cond.castable "[Ljava/lang/StackTraceElement;" t)).before args s = false := by
  simp [Jvm.Cond.before, Jvm.Cond.holds, Jvm.Cond.value, h]
set_option maxRecDepth 100000 in
set_option maxHeartbeats 4000000 in
theorem st_narrow (args : Array Jvm.Value) (s : Jvm.State) (h : s.vm.findClass "[Ljava/lang/StackTraceElement;" = none) :
    narrow_1_2.before args s = false := by
  unfold narrow_1_2
  simp only [Jvm.Cond.before_and, st_lack args s h, Bool.and_false, Bool.false_and]
theorem st_pre (tb : Jvm.Tables) (e : Jvm.Env) (args : Array Jvm.Value) (s : Jvm.State) (h : s.vm.findClass "[Ljava/lang/StackTraceElement;" = none) :
    ¬ Pre_1 tb e args s := by
  intro hp
  have hq : (Jvm.Cond.and given_1 narrow_1).before args s = true := hp
  unfold narrow_1 at hq
  simp only [Jvm.Cond.before_and, st_narrow args s h, Bool.and_false, Bool.false_and, Bool.false_eq_true] at hq
end
