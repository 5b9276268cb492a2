/-! throwing: what a caller of a method that throws must bring, and what it gets -/
theorem dm_x10 {α β : Type} {a b : α} (h : (some (.inl a) : Option (α ⊕ β)) = some (.inl b)) : some a = some b := by cases h; rfl
theorem dm_x11 {α β : Type} {a b : β} (h : (some (.inr a) : Option (α ⊕ β)) = some (.inr b)) : some a = some b := by cases h; rfl
theorem dm_x20 {α β γ : Type} {a b : α} (h : (some (.inl a) : Option (α ⊕ (β ⊕ γ))) = some (.inl b)) : some a = some b := by cases h; rfl
theorem dm_x21 {α β γ : Type} {a b : β} (h : (some (.inr (.inl a)) : Option (α ⊕ (β ⊕ γ))) = some (.inr (.inl b))) : some a = some b := by cases h; rfl
theorem dm_x22 {α β γ : Type} {a b : γ} (h : (some (.inr (.inr a)) : Option (α ⊕ (β ⊕ γ))) = some (.inr (.inr b))) : some a = some b := by cases h; rfl
def mc_xs : List Cond := [.castable "java/lang/IllegalArgumentException" "java/lang/IllegalArgumentException", .castable "java/lang/ArithmeticException" "java/lang/ArithmeticException", .castable "java/util/NoSuchElementException" "java/util/NoSuchElementException", .declares ⟨"java/lang/RuntimeException", "<init>", "()V"⟩, .declares ⟨"java/lang/Exception", "<init>", "()V"⟩, .declares ⟨"java/lang/Throwable", "<init>", "()V"⟩]
def mc_nx (U : State) : Prop := ∀ w ∈ mc_xs, va_Nw w U
theorem mc_nx.warm {s U : State} (hW : s.WarmedH U.vm) (h : mc_nx s) : mc_nx U := by
  intro w hw
  have h1 := h w hw
  simp only [mc_xs, List.mem_cons, List.not_mem_nil, or_false] at hw
  rcases hw with rfl | rfl | rfl | rfl | rfl | rfl <;> first | exact va_Nw.warmC hW h1 | exact va_Nw.warmD hW h1
theorem mc_nx.use {s : State} {args : Array Value} (h : mc_nx s) : ∀ w ∈ mc_xs, w.before args s = true := by
  intro w hw
  have h1 := h w hw
  simp only [mc_xs, List.mem_cons, List.not_mem_nil, or_false] at hw
  rcases hw with rfl | rfl | rfl | rfl | rfl | rfl <;> exact va_Nw.use rfl h1
abbrev mc_PreX (D : va_G) (tys : List (ClassId × FieldType)) (ws : va_W) (sz : Nat) : State → Prop := fun U => U.heap.size = sz ∧ va_P D vwCl ws U.heap ∧ va_K D vwCl tys U ∧ va_D (fun _ => True) ws ∧ mc_nw U ∧ mc_nx U ∧ vx_Zq Bundle.tN "UNASSIGNED_STACK" Bundle.steD (va_A ws sz) U U.heap ∧ vx_Zq Bundle.tN "SUPPRESSED_SENTINEL" Bundle.listD (va_A ws sz) U U.heap
def mc_no : Array Value → State → Outcome → State → Prop := fun _ _ _ _ => False
abbrev mc_X (D : va_G) (A : Nat → Prop) (cls : String) (ws : va_W) : String → State → State → Prop := vx_X (fun _ : Unit => True) (fun E _ t => E = cls ∧ va_P D vwCl ws t.heap ∧ va_D A ws) A
