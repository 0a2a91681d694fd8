/-! a start that meets every premise, and at which the law does not return: what shows REPORT.md's S1 for this row.
The start is the witness's own (start1), with another script, and with ONE change: behind its last class stands one more, gX, of the kind 'array of int', with a clone of its own (aload_0, athrow), and the array in FIRST_HOLDERS is of that class. -/
def gX : Class := { start1.cArr "X" 24 .int with interfaces := #[12], methods := #[Lib.HandJ.method "clone" "()Ljava/lang/Object;" [] (some (.object "java/lang/Object")) 0x1 1 ⟨#[0x2a, 0xbf]⟩] }
def gB : State := start1.aboutOf #[.int 0, .int 1, .int 10, .int 2, .int 3]
def gA : State := { gB with vm := { gB.vm with classes := gB.vm.classes.push gX }, heap := gB.heap.setIfInBounds 3 { cls := 37, slots := #[.int 0, .int 0, .int 0, .int 1], vm := .none } }
set_option maxRecDepth 16384
theorem gW_split {α : Type} (p : α → Bool) (n : Nat) (l : List α) (h1 : (l.take n).all p = true) (h2 : (l.drop n).all p = true) : l.all p = true := by
  rw [← List.take_append_drop n l, List.all_append, h1, h2]
  rfl
theorem gW_1_0 : ((tables_1_1).take 40).all (fun c => c.before start1.args0 gA) = true := by decide +kernel
theorem gW_1_1 : (((tables_1_1).drop 40).take 40).all (fun c => c.before start1.args0 gA) = true := by decide +kernel
theorem gW_1_2 : ((((tables_1_1).drop 40).drop 40).take 40).all (fun c => c.before start1.args0 gA) = true := by decide +kernel
theorem gW_1_3 : (((((tables_1_1).drop 40).drop 40).drop 40).take 40).all (fun c => c.before start1.args0 gA) = true := by decide +kernel
theorem gW_1_4 : ((((((tables_1_1).drop 40).drop 40).drop 40).drop 40).take 40).all (fun c => c.before start1.args0 gA) = true := by decide +kernel
theorem gW_1_5 : ((((((tables_1_1).drop 40).drop 40).drop 40).drop 40).drop 40).all (fun c => c.before start1.args0 gA) = true := by decide +kernel
theorem gW_1 : ∀ c ∈ tables_1_1, c.before start1.args0 gA = true := List.all_eq_true.mp (gW_split _ 40 (tables_1_1) gW_1_0 (gW_split _ 40 ((tables_1_1).drop 40) gW_1_1 (gW_split _ 40 (((tables_1_1).drop 40).drop 40) gW_1_2 (gW_split _ 40 ((((tables_1_1).drop 40).drop 40).drop 40) gW_1_3 (gW_split _ 40 (((((tables_1_1).drop 40).drop 40).drop 40).drop 40) gW_1_4 (gW_1_5))))))
theorem gW_2_0 : ((tables_1_2).take 40).all (fun c => c.before start1.args0 gA) = true := by decide +kernel
theorem gW_2_1 : (((tables_1_2).drop 40).take 40).all (fun c => c.before start1.args0 gA) = true := by decide +kernel
theorem gW_2_2 : ((((tables_1_2).drop 40).drop 40).take 40).all (fun c => c.before start1.args0 gA) = true := by decide +kernel
theorem gW_2_3 : (((((tables_1_2).drop 40).drop 40).drop 40).take 40).all (fun c => c.before start1.args0 gA) = true := by decide +kernel
theorem gW_2_4 : ((((((tables_1_2).drop 40).drop 40).drop 40).drop 40).take 40).all (fun c => c.before start1.args0 gA) = true := by decide +kernel
theorem gW_2_5 : ((((((tables_1_2).drop 40).drop 40).drop 40).drop 40).drop 40).all (fun c => c.before start1.args0 gA) = true := by decide +kernel
theorem gW_2 : ∀ c ∈ tables_1_2, c.before start1.args0 gA = true := List.all_eq_true.mp (gW_split _ 40 (tables_1_2) gW_2_0 (gW_split _ 40 ((tables_1_2).drop 40) gW_2_1 (gW_split _ 40 (((tables_1_2).drop 40).drop 40) gW_2_2 (gW_split _ 40 ((((tables_1_2).drop 40).drop 40).drop 40) gW_2_3 (gW_split _ 40 (((((tables_1_2).drop 40).drop 40).drop 40).drop 40) gW_2_4 (gW_2_5))))))
theorem gW_3_0 : ((tables_1_3).take 40).all (fun c => c.before start1.args0 gA) = true := by decide +kernel
theorem gW_3_1 : (((tables_1_3).drop 40).take 40).all (fun c => c.before start1.args0 gA) = true := by decide +kernel
theorem gW_3_2 : ((((tables_1_3).drop 40).drop 40).take 40).all (fun c => c.before start1.args0 gA) = true := by decide +kernel
theorem gW_3_3 : (((((tables_1_3).drop 40).drop 40).drop 40).take 40).all (fun c => c.before start1.args0 gA) = true := by decide +kernel
theorem gW_3_4 : ((((((tables_1_3).drop 40).drop 40).drop 40).drop 40).take 40).all (fun c => c.before start1.args0 gA) = true := by decide +kernel
theorem gW_3_5 : ((((((tables_1_3).drop 40).drop 40).drop 40).drop 40).drop 40).all (fun c => c.before start1.args0 gA) = true := by decide +kernel
theorem gW_3 : ∀ c ∈ tables_1_3, c.before start1.args0 gA = true := List.all_eq_true.mp (gW_split _ 40 (tables_1_3) gW_3_0 (gW_split _ 40 ((tables_1_3).drop 40) gW_3_1 (gW_split _ 40 (((tables_1_3).drop 40).drop 40) gW_3_2 (gW_split _ 40 ((((tables_1_3).drop 40).drop 40).drop 40) gW_3_3 (gW_split _ 40 (((((tables_1_3).drop 40).drop 40).drop 40).drop 40) gW_3_4 (gW_3_5))))))
theorem gW_4_0 : ((tables_1_4).take 40).all (fun c => c.before start1.args0 gA) = true := by decide +kernel
theorem gW_4_1 : (((tables_1_4).drop 40).take 40).all (fun c => c.before start1.args0 gA) = true := by decide +kernel
theorem gW_4_2 : ((((tables_1_4).drop 40).drop 40).take 40).all (fun c => c.before start1.args0 gA) = true := by decide +kernel
theorem gW_4_3 : (((((tables_1_4).drop 40).drop 40).drop 40).take 40).all (fun c => c.before start1.args0 gA) = true := by decide +kernel
theorem gW_4_4 : ((((((tables_1_4).drop 40).drop 40).drop 40).drop 40).take 40).all (fun c => c.before start1.args0 gA) = true := by decide +kernel
theorem gW_4_5 : ((((((tables_1_4).drop 40).drop 40).drop 40).drop 40).drop 40).all (fun c => c.before start1.args0 gA) = true := by decide +kernel
theorem gW_4 : ∀ c ∈ tables_1_4, c.before start1.args0 gA = true := List.all_eq_true.mp (gW_split _ 40 (tables_1_4) gW_4_0 (gW_split _ 40 ((tables_1_4).drop 40) gW_4_1 (gW_split _ 40 (((tables_1_4).drop 40).drop 40) gW_4_2 (gW_split _ 40 ((((tables_1_4).drop 40).drop 40).drop 40) gW_4_3 (gW_split _ 40 (((((tables_1_4).drop 40).drop 40).drop 40).drop 40) gW_4_4 (gW_4_5))))))
theorem gW_5_0 : (tables_1_5).all (fun c => c.before start1.args0 gA) = true := by decide +kernel
theorem gW_5 : ∀ c ∈ tables_1_5, c.before start1.args0 gA = true := List.all_eq_true.mp (gW_5_0)
