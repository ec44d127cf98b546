section
/-! what the Statement's premise asks of the start: the class [Ljava/lang/StackTraceElement; must be found there -/
theorem zz_and {a b : Jvm.Cond} {args : Array Value} {f : State} {o : Option Outcome} {s : State} {idx : List Nat} (h : (Jvm.Cond.and a b).value args f o s idx = some true) :
    a.value args f o s idx = some true ∧ b.value args f o s idx = some true := by
  cases ha : a.value args f o s idx with
  | none => simp [Jvm.Cond.value, ha] at h
  | some v =>
    cases v with
    | false => simp [Jvm.Cond.value, ha] at h
    | true => exact ⟨rfl, by simpa [Jvm.Cond.value, ha] using h⟩
theorem zz_narrow {args : Array Value} {s : State} (h : s.vm.findClass "[Ljava/lang/StackTraceElement;" = none) : narrow_1.before args s = false := by
  cases hb : narrow_1.before args s with
  | false => rfl
  | true =>
    exfalso
    have h0 : narrow_1.value args s none s [] = some true := eq_of_beq hb
    have hN : (Jvm.Cond.not (Jvm.Cond.castable "[Ljava/lang/StackTraceElement;" "java/lang/String")).value args s none s [] = some true :=
      (zz_and (zz_and (zz_and (zz_and (zz_and (zz_and (zz_and (zz_and (zz_and (zz_and h0).1).2).2).1).2).2).1).2).2).2
    simp [Jvm.Cond.value, h] at hN
theorem zz_pre {args : Array Value} {s : State} (h : s.vm.findClass "[Ljava/lang/StackTraceElement;" = none) : (Jvm.Cond.and given_1 narrow_1).before args s = false := by
  cases hb : (Jvm.Cond.and given_1 narrow_1).before args s with
  | false => rfl
  | true =>
    exfalso
    have h0 : (Jvm.Cond.and given_1 narrow_1).value args s none s [] = some true := eq_of_beq hb
    have h1 : narrow_1.before args s = true := by
      have h2 := (zz_and h0).2
      simp [Jvm.Cond.before, Jvm.Cond.holds, h2]
    rw [zz_narrow h] at h1
    exact absurd h1 (by decide)
end
