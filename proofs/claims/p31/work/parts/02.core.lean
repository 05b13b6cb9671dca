/-! THE COMMON PART: loops as functions, worlds, contracts, calls in one row each. -/
section XCORE
/-- a loop with fuel: the body goes on (inl) or leaves (inr) -/
def loopF {S E : Type} (body : S → Option (S ⊕ E)) : Nat → S → Option E
  | 0 => fun _ => none
  | n + 1 => fun s => (body s).bind (fun x => Sum.elim (loopF body n) some x)
theorem loopF_step {S E : Type} {body : S → Option (S ⊕ E)} {n : Nat} {s : S} {e : E} (h : loopF body (n + 1) s = some e) : ∃ x, body s = some x ∧ ((∃ s', x = .inl s' ∧ loopF body n s' = some e) ∨ x = .inr e) := by
  obtain ⟨x, hx, h⟩ := Option.bind_eq_some_iff.mp h
  refine ⟨x, hx, ?_⟩
  cases x with
  | inl s' => exact Or.inl ⟨s', rfl, h⟩
  | inr e' => exact Or.inr (by cases h; rfl)
theorem loopF_zero {S E : Type} {body : S → Option (S ⊕ E)} {s : S} {e : E} (h : loopF body 0 s = some e) : False := by cases h
def FUEL : Nat := 100000
theorem gd {c : Prop} {_ : Decidable c} {α : Type} {k : Option α} {r : α} (h : (if c then none else k) = some r) : ¬ c ∧ k = some r := by
  by_cases hc : c
  · rw [if_pos hc] at h; cases h
  · rw [if_neg hc] at h; exact ⟨hc, h⟩
theorem ip {c : Prop} {_ : Decidable c} {α : Type} {a b r : α} (hc : c) (h : (if c then a else b) = r) : a = r := by rw [if_pos hc] at h; exact h
theorem iq {c : Prop} {_ : Decidable c} {α : Type} {a b r : α} (hc : ¬ c) (h : (if c then a else b) = r) : b = r := by rw [if_neg hc] at h; exact h
theorem gz {c : Prop} {_ : Decidable c} {α : Type} {k : Option α} {r : α} (h : (if c then k else none) = some r) : c ∧ k = some r := by
  by_cases hc : c
  · rw [if_pos hc] at h; exact ⟨hc, h⟩
  · rw [if_neg hc] at h; cases h
theorem fitb {v : Int32} (h : v &&& 1 = v) : fits .boolean (.int v) = true := by
  have h1 := fits_narrow_boolean v
  rw [show narrow .boolean (.int v) = .int v from congrArg Value.int h] at h1
  exact h1
abbrev xrem (x y : Int32) : Int32 := x - x / y * y
abbrev xlrem (x y : Int64) : Int64 := x - x / y * y
abbrev xmin (x y : Int32) : Int32 := if y < x then y else x
abbrev xmax (x y : Int32) : Int32 := if x < y then y else x
abbrev xabs (x : Int32) : Int32 := if 0 ≤ x then x else 0 - x
abbrev xlushr (x : Int64) (y : Int32) : Int64 := (x.toUInt64 >>> (y.toInt64.toUInt64 &&& Int64.toUInt64 63)).toInt64
abbrev xlshl (x : Int64) (y : Int32) : Int64 := x <<< (y.toInt64 &&& 63)
def u2 {A B β : Type} (k : A → B → β) (e : A × B) : β := k e.1 e.2
def u3 {A B C β : Type} (k : A → B → C → β) (e : A × B × C) : β := k e.1 e.2.1 e.2.2
def u4 {A B C D β : Type} (k : A → B → C → D → β) (e : A × B × C × D) : β := k e.1 e.2.1 e.2.2.1 e.2.2.2
def u5 {A B C D E β : Type} (k : A → B → C → D → E → β) (e : A × B × C × D × E) : β := k e.1 e.2.1 e.2.2.1 e.2.2.2.1 e.2.2.2.2
theorem xu2 {A B β : Type} {k : A → B → β} {a : A} {b : B} {r : β} (h : u2 k (a, b) = r) : k a b = r := h
theorem xu3 {A B C β : Type} {k : A → B → C → β} {a : A} {b : B} {c : C} {r : β} (h : u3 k (a, b, c) = r) : k a b c = r := h
theorem xu4 {A B C D β : Type} {k : A → B → C → D → β} {a : A} {b : B} {c : C} {d : D} {r : β} (h : u4 k (a, b, c, d) = r) : k a b c d = r := h
theorem xu5 {A B C D E β : Type} {k : A → B → C → D → E → β} {a : A} {b : B} {c : C} {d : D} {e : E} {r : β} (h : u5 k (a, b, c, d, e) = r) : k a b c d e = r := h
def u6 {A B C D E F Z : Type} (k : A → B → C → D → E → F → Z) (e : A × B × C × D × E × F) : Z := k e.1 e.2.1 e.2.2.1 e.2.2.2.1 e.2.2.2.2.1 e.2.2.2.2.2
theorem xu6 {A B C D E F Z : Type} {k : A → B → C → D → E → F → Z} {x0 : A} {x1 : B} {x2 : C} {x3 : D} {x4 : E} {x5 : F} {r : Z} (h : u6 k (x0, x1, x2, x3, x4, x5) = r) : k x0 x1 x2 x3 x4 x5 = r := h
def u7 {A B C D E F G Z : Type} (k : A → B → C → D → E → F → G → Z) (e : A × B × C × D × E × F × G) : Z := k e.1 e.2.1 e.2.2.1 e.2.2.2.1 e.2.2.2.2.1 e.2.2.2.2.2.1 e.2.2.2.2.2.2
theorem xu7 {A B C D E F G Z : Type} {k : A → B → C → D → E → F → G → Z} {x0 : A} {x1 : B} {x2 : C} {x3 : D} {x4 : E} {x5 : F} {x6 : G} {r : Z} (h : u7 k (x0, x1, x2, x3, x4, x5, x6) = r) : k x0 x1 x2 x3 x4 x5 x6 = r := h
def u8 {A B C D E F G H Z : Type} (k : A → B → C → D → E → F → G → H → Z) (e : A × B × C × D × E × F × G × H) : Z := k e.1 e.2.1 e.2.2.1 e.2.2.2.1 e.2.2.2.2.1 e.2.2.2.2.2.1 e.2.2.2.2.2.2.1 e.2.2.2.2.2.2.2
theorem xu8 {A B C D E F G H Z : Type} {k : A → B → C → D → E → F → G → H → Z} {x0 : A} {x1 : B} {x2 : C} {x3 : D} {x4 : E} {x5 : F} {x6 : G} {x7 : H} {r : Z} (h : u8 k (x0, x1, x2, x3, x4, x5, x6, x7) = r) : k x0 x1 x2 x3 x4 x5 x6 x7 = r := h
def u9 {A B C D E F G H I Z : Type} (k : A → B → C → D → E → F → G → H → I → Z) (e : A × B × C × D × E × F × G × H × I) : Z := k e.1 e.2.1 e.2.2.1 e.2.2.2.1 e.2.2.2.2.1 e.2.2.2.2.2.1 e.2.2.2.2.2.2.1 e.2.2.2.2.2.2.2.1 e.2.2.2.2.2.2.2.2
theorem xu9 {A B C D E F G H I Z : Type} {k : A → B → C → D → E → F → G → H → I → Z} {x0 : A} {x1 : B} {x2 : C} {x3 : D} {x4 : E} {x5 : F} {x6 : G} {x7 : H} {x8 : I} {r : Z} (h : u9 k (x0, x1, x2, x3, x4, x5, x6, x7, x8) = r) : k x0 x1 x2 x3 x4 x5 x6 x7 x8 = r := h
def u10 {A B C D E F G H I J Z : Type} (k : A → B → C → D → E → F → G → H → I → J → Z) (e : A × B × C × D × E × F × G × H × I × J) : Z := k e.1 e.2.1 e.2.2.1 e.2.2.2.1 e.2.2.2.2.1 e.2.2.2.2.2.1 e.2.2.2.2.2.2.1 e.2.2.2.2.2.2.2.1 e.2.2.2.2.2.2.2.2.1 e.2.2.2.2.2.2.2.2.2
theorem xu10 {A B C D E F G H I J Z : Type} {k : A → B → C → D → E → F → G → H → I → J → Z} {x0 : A} {x1 : B} {x2 : C} {x3 : D} {x4 : E} {x5 : F} {x6 : G} {x7 : H} {x8 : I} {x9 : J} {r : Z} (h : u10 k (x0, x1, x2, x3, x4, x5, x6, x7, x8, x9) = r) : k x0 x1 x2 x3 x4 x5 x6 x7 x8 x9 = r := h
theorem xs20 {A B β : Type} {f : A → β} {g : B → β} {a : A} {r : β} (h : Sum.elim f g (Sum.inl a) = r) : f a = r := h
theorem xs21 {A B β : Type} {f : A → β} {g : B → β} {b : B} {r : β} (h : Sum.elim f g (Sum.inr b) = r) : g b = r := h
theorem xs30 {A B C β : Type} {f : A → β} {g : B → β} {k : C → β} {a : A} {r : β} (h : Sum.elim f (Sum.elim g k) (Sum.inl a) = r) : f a = r := h
theorem xs31 {A B C β : Type} {f : A → β} {g : B → β} {k : C → β} {b : B} {r : β} (h : Sum.elim f (Sum.elim g k) (Sum.inr (Sum.inl b)) = r) : g b = r := h
theorem xs32 {A B C β : Type} {f : A → β} {g : B → β} {k : C → β} {c : C} {r : β} (h : Sum.elim f (Sum.elim g k) (Sum.inr (Sum.inr c)) = r) : k c = r := h
def b1 {A β : Type} (x : Option A) (k : A → Option β) : Option β := x.bind k
def b2 {A B β : Type} (x : Option (A × B)) (k : A → B → Option β) : Option β := x.bind (fun e => k e.1 e.2)
def b3 {A B C β : Type} (x : Option (A × B × C)) (k : A → B → C → Option β) : Option β := x.bind (fun e => k e.1 e.2.1 e.2.2)
def b4 {A B C D β : Type} (x : Option (A × B × C × D)) (k : A → B → C → D → Option β) : Option β := x.bind (fun e => k e.1 e.2.1 e.2.2.1 e.2.2.2)
def b5 {A B C D E β : Type} (x : Option (A × B × C × D × E)) (k : A → B → C → D → E → Option β) : Option β := x.bind (fun e => k e.1 e.2.1 e.2.2.1 e.2.2.2.1 e.2.2.2.2)
def b6 {A B C D E F β : Type} (x : Option (A × B × C × D × E × F)) (k : A → B → C → D → E → F → Option β) : Option β := x.bind (fun e => k e.1 e.2.1 e.2.2.1 e.2.2.2.1 e.2.2.2.2.1 e.2.2.2.2.2)
def b7 {A B C D E F G β : Type} (x : Option (A × B × C × D × E × F × G)) (k : A → B → C → D → E → F → G → Option β) : Option β := x.bind (fun e => k e.1 e.2.1 e.2.2.1 e.2.2.2.1 e.2.2.2.2.1 e.2.2.2.2.2.1 e.2.2.2.2.2.2)
def b8 {A B C D E F G H β : Type} (x : Option (A × B × C × D × E × F × G × H)) (k : A → B → C → D → E → F → G → H → Option β) : Option β := x.bind (fun e => k e.1 e.2.1 e.2.2.1 e.2.2.2.1 e.2.2.2.2.1 e.2.2.2.2.2.1 e.2.2.2.2.2.2.1 e.2.2.2.2.2.2.2)
def b9 {A B C D E F G H I β : Type} (x : Option (A × B × C × D × E × F × G × H × I)) (k : A → B → C → D → E → F → G → H → I → Option β) : Option β := x.bind (fun e => k e.1 e.2.1 e.2.2.1 e.2.2.2.1 e.2.2.2.2.1 e.2.2.2.2.2.1 e.2.2.2.2.2.2.1 e.2.2.2.2.2.2.2.1 e.2.2.2.2.2.2.2.2)
def b10 {A B C D E F G H I J β : Type} (x : Option (A × B × C × D × E × F × G × H × I × J)) (k : A → B → C → D → E → F → G → H → I → J → Option β) : Option β := x.bind (fun e => k e.1 e.2.1 e.2.2.1 e.2.2.2.1 e.2.2.2.2.1 e.2.2.2.2.2.1 e.2.2.2.2.2.2.1 e.2.2.2.2.2.2.2.1 e.2.2.2.2.2.2.2.2.1 e.2.2.2.2.2.2.2.2.2)
def b11 {A B C D E F G H I J K β : Type} (x : Option (A × B × C × D × E × F × G × H × I × J × K)) (k : A → B → C → D → E → F → G → H → I → J → K → Option β) : Option β := x.bind (fun e => k e.1 e.2.1 e.2.2.1 e.2.2.2.1 e.2.2.2.2.1 e.2.2.2.2.2.1 e.2.2.2.2.2.2.1 e.2.2.2.2.2.2.2.1 e.2.2.2.2.2.2.2.2.1 e.2.2.2.2.2.2.2.2.2.1 e.2.2.2.2.2.2.2.2.2.2)
theorem b1_some {A β : Type} {x : Option A} {k : A → Option β} {r : β} (h : b1 x k = some r) : ∃ a, x = some a ∧ k a = some r := Option.bind_eq_some_iff.mp h
theorem b2_some {A B β : Type} {x : Option (A × B)} {k : A → B → Option β} {r : β} (h : b2 x k = some r) : ∃ a b, x = some (a, b) ∧ k a b = some r := by
  obtain ⟨⟨a, b⟩, h1, h2⟩ := Option.bind_eq_some_iff.mp h
  exact ⟨a, b, h1, h2⟩
theorem b3_some {A B C β : Type} {x : Option (A × B × C)} {k : A → B → C → Option β} {r : β} (h : b3 x k = some r) : ∃ a b c, x = some (a, b, c) ∧ k a b c = some r := by
  obtain ⟨⟨a, b, c⟩, h1, h2⟩ := Option.bind_eq_some_iff.mp h
  exact ⟨a, b, c, h1, h2⟩
theorem b4_some {A B C D β : Type} {x : Option (A × B × C × D)} {k : A → B → C → D → Option β} {r : β} (h : b4 x k = some r) : ∃ a b c d, x = some (a, b, c, d) ∧ k a b c d = some r := by
  obtain ⟨⟨a, b, c, d⟩, h1, h2⟩ := Option.bind_eq_some_iff.mp h
  exact ⟨a, b, c, d, h1, h2⟩
theorem b5_some {A B C D E β : Type} {x : Option (A × B × C × D × E)} {k : A → B → C → D → E → Option β} {r : β} (h : b5 x k = some r) : ∃ a b c d e, x = some (a, b, c, d, e) ∧ k a b c d e = some r := by
  obtain ⟨⟨a, b, c, d, e⟩, h1, h2⟩ := Option.bind_eq_some_iff.mp h
  exact ⟨a, b, c, d, e, h1, h2⟩
theorem b6_some {A B C D E F β : Type} {x : Option (A × B × C × D × E × F)} {k : A → B → C → D → E → F → Option β} {r : β} (h : b6 x k = some r) : ∃ a b c d e f, x = some (a, b, c, d, e, f) ∧ k a b c d e f = some r := by
  obtain ⟨⟨a, b, c, d, e, f⟩, h1, h2⟩ := Option.bind_eq_some_iff.mp h
  exact ⟨a, b, c, d, e, f, h1, h2⟩
theorem b7_some {A B C D E F G β : Type} {x : Option (A × B × C × D × E × F × G)} {k : A → B → C → D → E → F → G → Option β} {r : β} (h : b7 x k = some r) : ∃ a b c d e f g, x = some (a, b, c, d, e, f, g) ∧ k a b c d e f g = some r := by
  obtain ⟨⟨a, b, c, d, e, f, g⟩, h1, h2⟩ := Option.bind_eq_some_iff.mp h
  exact ⟨a, b, c, d, e, f, g, h1, h2⟩
theorem b8_some {A B C D E F G H β : Type} {x : Option (A × B × C × D × E × F × G × H)} {k : A → B → C → D → E → F → G → H → Option β} {r : β} (h : b8 x k = some r) : ∃ a b c d e f g i, x = some (a, b, c, d, e, f, g, i) ∧ k a b c d e f g i = some r := by
  obtain ⟨⟨a, b, c, d, e, f, g, i⟩, h1, h2⟩ := Option.bind_eq_some_iff.mp h
  exact ⟨a, b, c, d, e, f, g, i, h1, h2⟩
theorem b9_some {A B C D E F G H I β : Type} {x : Option (A × B × C × D × E × F × G × H × I)} {k : A → B → C → D → E → F → G → H → I → Option β} {r : β} (h : b9 x k = some r) : ∃ a b c d e f g i j, x = some (a, b, c, d, e, f, g, i, j) ∧ k a b c d e f g i j = some r := by
  obtain ⟨⟨a, b, c, d, e, f, g, i, j⟩, h1, h2⟩ := Option.bind_eq_some_iff.mp h
  exact ⟨a, b, c, d, e, f, g, i, j, h1, h2⟩
theorem b10_some {A B C D E F G H I J β : Type} {x : Option (A × B × C × D × E × F × G × H × I × J)} {k : A → B → C → D → E → F → G → H → I → J → Option β} {r : β} (h : b10 x k = some r) : ∃ a b c d e f g i j o, x = some (a, b, c, d, e, f, g, i, j, o) ∧ k a b c d e f g i j o = some r := by
  obtain ⟨⟨a, b, c, d, e, f, g, i, j, o⟩, h1, h2⟩ := Option.bind_eq_some_iff.mp h
  exact ⟨a, b, c, d, e, f, g, i, j, o, h1, h2⟩
theorem b11_some {A B C D E F G H I J K β : Type} {x : Option (A × B × C × D × E × F × G × H × I × J × K)} {k : A → B → C → D → E → F → G → H → I → J → K → Option β} {r : β} (h : b11 x k = some r) : ∃ a b c d e f g i j o u, x = some (a, b, c, d, e, f, g, i, j, o, u) ∧ k a b c d e f g i j o u = some r := by
  obtain ⟨⟨a, b, c, d, e, f, g, i, j, o, u⟩, h1, h2⟩ := Option.bind_eq_some_iff.mp h
  exact ⟨a, b, c, d, e, f, g, i, j, o, u, h1, h2⟩
/-- the nest mates' links, which no word list may hold -/
def xNest : List Cond := [.methodLinkNest RX5 23 yX6_cell RX6, .methodLinkNest RX5 19 yX6_putCell RX6, .methodLinkNest RX4 60 yX6_isOnGrid RX6, .methodLinkNest RX4 52 yX6_putCell RX6, .methodLinkNest RX4 44 yX6_cell RX6, .methodLinkNest RX4 32 yX6_copyRow RX6, .methodLinkNest RX4 11 yX0_init RX6, .methodLinkNest RX3 21 yX4_init RX6, .methodLinkNest RX2 59 yX6_cell RX6, .methodLinkNest RX2 41 yX6_putCell RX6, .methodLinkNest RX0 39 yX6_cell RX6, .methodLinkNest RX0 35 yX6_putCell RX6, .methodLinkNest RX0 31 yX6_copyCells RX6, .methodLinkNest RX0 27 yX6_copyRow RX6, .methodLinkNest RX6 11 yX4_init RX6, .methodLinkNest RX6 21 yX2_init RX6, .methodLinkNest RX6 28 yX5_init RX6, .methodLinkNest RX6 35 yX1_init RX6]
def xN (U : State) : Prop := (∀ w ∈ xNest, va_Nw w U) ∧ va_AO "RuledStrokes$State" U
theorem xNest_is : ∀ w ∈ xNest, ∃ (a : String) (i : Nat) (x : MethodName) (h : String), w = .methodLinkNest a i x h := by
  intro w hw
  simp only [xNest, List.mem_cons, List.not_mem_nil, or_false] at hw
  rcases hw with h | h | h | h | h | h | h | h | h | h | h | h | h | h | h | h | h | h <;> exact ⟨_, _, _, _, h⟩
theorem xN.warm {s U : State} (hW : s.WarmedH U.vm) (h : xN s) : xN U := by
  refine ⟨fun w hw => ?_, va_AO.moved hW.alike h.2⟩
  obtain ⟨a, i, x, k, rfl⟩ := xNest_is w hw
  exact va_Nw.warmM hW (h.1 _ hw)
theorem xN.same {u U : State} (e : u.vm = U.vm) (h : xN u) : xN U := by
  refine ⟨fun w hw => ?_, va_AO.moved (by rw [e]; exact Vm.Alike.refl _) h.2⟩
  obtain ⟨a, i, x, k, rfl⟩ := xNest_is w hw
  exact va_Nw.same rfl e (h.1 _ hw)
abbrev xTy (cc : Nat → ClassId) : List (ClassId × FieldType) := [(cc 0, .int), (cc 0, .int), (cc 2, .object "RuledStrokes$State"), (cc 0, .int)]
/-- a method's start -/
def xP (D : va_G) (cc : Nat → ClassId) (ws : va_W) (sz : Nat) (U : State) : Prop := U.heap.size = sz ∧ va_P D vwCl ws U.heap ∧ va_K D vwCl (xTy cc) U ∧ va_D (fun _ => True) ws ∧ xN U
/-- its end: new cells' addresses q -/
def xB (D : va_G) (cc : Nat → ClassId) (wc : va_W) (sz : Nat) (w1 : (Nat → Nat) → va_W) (_ : Unit) (t : State) : Prop := ∃ q : Nat → Nat, va_P D vwCl (w1 q) t.heap ∧ va_K D vwCl (xTy cc) t ∧ va_D (va_A wc sz) (w1 q)
theorem xP.blind {D : va_G} {cc : Nat → ClassId} {ws : va_W} {sz : Nat} {av : List Value} : FrameBlind (va_Pc av (xP D cc ws sz)) := fun a U g mk q => by
  obtain ⟨q0, q1, qP, qK, qD, qN⟩ := q
  exact ⟨q0, q1, qP, va_K.moved (u := U) (U := U.calling g mk a) (Vm.Alike.refl U.vm) qK, qD, xN.same (u := U) (U := U.calling g mk a) rfl qN⟩
/-- contracts: an int, nothing, a long, a reference as it stands -/
def xMi (l : Launch) (y : MethodName) (wy : List Cond) (rm : Room) (D : va_G) (cc : Nat → ClassId) (av : List Value) (wc : va_W) (v : Int32) (w1 : (Nat → Nat) → va_W) (mc ms : Nat) : Prop := ∀ sz : Nat, Met l y wy rm (va_Pc av (xP D cc wc sz)) (va_Qi (fun r (_ : Unit) => r = v) (xB D cc wc sz w1) (va_A wc sz)) mc ms (va_A wc sz)
def xMl (l : Launch) (y : MethodName) (wy : List Cond) (rm : Room) (D : va_G) (cc : Nat → ClassId) (av : List Value) (wc : va_W) (v : Int64) (w1 : (Nat → Nat) → va_W) (mc ms : Nat) : Prop := ∀ sz : Nat, Met l y wy rm (va_Pc av (xP D cc wc sz)) (va_Ql (fun r (_ : Unit) => r = v) (xB D cc wc sz w1) (va_A wc sz)) mc ms (va_A wc sz)
def xMv (l : Launch) (y : MethodName) (wy : List Cond) (rm : Room) (D : va_G) (cc : Nat → ClassId) (av : List Value) (wc : va_W) (w1 : (Nat → Nat) → va_W) (mc ms : Nat) : Prop := ∀ sz : Nat, Met l y wy rm (va_Pc av (xP D cc wc sz)) (va_Qv (fun (_ : Unit) => True) (xB D cc wc sz w1) (va_A wc sz)) mc ms (va_A wc sz)
def xMq (l : Launch) (y : MethodName) (wy : List Cond) (rm : Room) (D : va_G) (cc : Nat → ClassId) (av : List Value) (wc : va_W) (o : Option Nat) (w1 : (Nat → Nat) → va_W) (mc ms : Nat) : Prop := ∀ sz : Nat, Met l y wy rm (va_Pc av (xP D cc wc sz)) (va_Qq (fun r (_ : Unit) => r = o) (xB D cc wc sz w1) (va_A wc sz)) mc ms (va_A wc sz)
/-- where a method's body stands -/
abbrev xFix (p : Program) (m : MethodId) (c : Code) (bc : ByteArray) (nL : Nat) (s : State) (args : Array Value) (Ts : List Cond) (own : String) (meth : Method) (ret : Option FieldType) : Prop := CallFix p m c bc nL s args Ts own ∧ meth.sig.returnType = ret ∧ meth.locks = false
theorem xstart {l : Launch} {y : MethodName} {wy ws' : List Cond} {rm : Room} {D : va_G} {cc : Nat → ClassId} {av : List Value} {wc : va_W} {sz : Nat} {Qc : Array Value → State → Outcome → State → Prop} {mc ms : Nat} {bc : ByteArray} {maxL : Nat} {ret : Option FieldType}
    (hy : plainName y.cls = true) (hw : wy = Cond.code y bc maxL ret :: ws') (hav : (lg_sl av).length ≤ maxL)
    (body : ∀ (p : Program) (e : Env) (s : State) (m : MethodId) (args : Array Value) (below : List Frame) (meth : Method) (c : Code) (A : Nat → Prop), args = av.toArray → s.heap.size = sz → A = va_A wc sz → xFix p m c bc maxL s args wy y.cls meth ret → va_K D vwCl (xTy cc) s → xN s → (∀ q : Nat, s.heap.size ≤ q → A q) → (meth.name = y.name) → va_P D vwCl wc s.heap → va_D A wc → va_S A s.heap s.heap [] → ∀ ls : Array Slot, lv_has ls maxL (lv_args 0 av) →
      W p l e rm s m args below meth c s.heap [] 0 0 (MQ below Qc args s mc ms A) (F0 m 0 ls [])) : Met l y wy rm (va_Pc av (xP D cc wc sz)) Qc mc ms (va_A wc sz) := by
  refine Met.ofW (cc := bc) (maxL := maxL) (ret := ret) hy hw ?_
  intro p e s m args below meth c s₁ B hml hv
  obtain ⟨rfl, hsz, hP, hK, hD0, hN⟩ := hv
  have hts := atoms_spec (ws := wy) B.pre
  have hl := lv_entry av hav
  rw [lg_entry_eq]
  refine body p e s m _ below meth c (va_A wc sz) rfl hsz rfl ⟨⟨B.exec, B.bytes, hml, findClass_of_methodNamed B.named, hts⟩, B.returns, B.notSynchronized⟩ hK hN (fun q h => Or.inr (by omega)) (name_of_methodNamed B.named B.method).1 hP hD0.self va_S.rf _ hl
section XE
variable {p : Program} {l : Launch} {e : Env} {R : Room} {s : State} {m : MethodId} {args : Array Value} {below : List Frame} {meth : Method} {c : Code} {H : Heap} {locs : List Loc} {cells slots : Nat} {bc : ByteArray} {maxL : Nat} {Ts : List Cond} {own : String} {D : va_G} {cc : Nat → ClassId} {wc : va_W} {sz mc ms pc : Nat} {A : Nat → Prop} {w1 : (Nat → Nat) → va_W} {ls : Array Slot} {w9 : va_W}
theorem xendi {ret : Option FieldType} {v v0 : Int32} (F : xFix p m c bc maxL s args Ts own meth (some .int)) (hsz : s.heap.size = sz) (hAe : A = va_A wc sz) (hK : va_K D vwCl (xTy cc) s) (hP : va_P D vwCl w9 H) (hD : va_D A w9) (hS : va_S A s.heap H locs) (q : Nat → Nat) (h9 : w1 q = w9) (hv : v = v0) (hmc : cells ≤ mc) (hms : slots ≤ ms) (hdg : decode bc pc = .ok (.ireturn, 1)) :
    W p l e R s m args below meth c H locs cells slots (MQ below (va_Qi (fun r (_ : Unit) => r = v0) (xB D cc wc sz w1) (va_A wc sz)) args s mc ms A) (F0 m pc ls [.int v]) := by
  obtain ⟨⟨hx, hb, -, -, -⟩, hr, hlk⟩ := F
  subst hAe; subst h9; subst hv
  refine W.widen hmc hms ?_
  exact W.iret hx hb hr (fun t ht hW => ⟨⟨v, (), rfl, rfl, q, by rw [ht]; exact hP, va_K.moved hW.alike hK, hD⟩, hS.F ht⟩) hS.2.2 hdg hlk
theorem xendz {v v0 : Int32} (F : xFix p m c bc maxL s args Ts own meth (some .boolean)) (hn : v &&& 1 = v) (hsz : s.heap.size = sz) (hAe : A = va_A wc sz) (hK : va_K D vwCl (xTy cc) s) (hP : va_P D vwCl w9 H) (hD : va_D A w9) (hS : va_S A s.heap H locs) (q : Nat → Nat) (h9 : w1 q = w9) (hv : v = v0) (hmc : cells ≤ mc) (hms : slots ≤ ms) (hdg : decode bc pc = .ok (.ireturn, 1)) :
    W p l e R s m args below meth c H locs cells slots (MQ below (va_Qi (fun r (_ : Unit) => r = v0) (xB D cc wc sz w1) (va_A wc sz)) args s mc ms A) (F0 m pc ls [.int v]) := by
  obtain ⟨⟨hx, hb, -, -, -⟩, hr, hlk⟩ := F
  subst hAe; subst h9; subst hv
  refine W.widen hmc hms ?_
  exact W.zret hx hb hr (congrArg Value.int hn) (fun t ht hW => ⟨⟨v, (), rfl, rfl, q, by rw [ht]; exact hP, va_K.moved hW.alike hK, hD⟩, hS.F ht⟩) hS.2.2 hdg hlk
theorem xendl {v v0 : Int64} (F : xFix p m c bc maxL s args Ts own meth (some .long)) (hsz : s.heap.size = sz) (hAe : A = va_A wc sz) (hK : va_K D vwCl (xTy cc) s) (hP : va_P D vwCl w9 H) (hD : va_D A w9) (hS : va_S A s.heap H locs) (q : Nat → Nat) (h9 : w1 q = w9) (hv : v = v0) (hmc : cells ≤ mc) (hms : slots ≤ ms) (hdg : decode bc pc = .ok (.lreturn, 1)) :
    W p l e R s m args below meth c H locs cells slots (MQ below (va_Ql (fun r (_ : Unit) => r = v0) (xB D cc wc sz w1) (va_A wc sz)) args s mc ms A) (F0 m pc ls [.long v]) := by
  obtain ⟨⟨hx, hb, -, -, -⟩, hr, hlk⟩ := F
  subst hAe; subst h9; subst hv
  refine W.widen hmc hms ?_
  exact W.lret hx hb hr (fun t ht hW => ⟨⟨v, (), rfl, rfl, q, by rw [ht]; exact hP, va_K.moved hW.alike hK, hD⟩, hS.F ht⟩) hS.2.2 hdg hlk
theorem xendq {rt : String} {o : Option Nat} {v : Value} (F : xFix p m c bc maxL s args Ts own meth (some (.object rt))) (hsz : s.heap.size = sz) (hAe : A = va_A wc sz) (hK : va_K D vwCl (xTy cc) s) (hP : va_P D vwCl w9 H) (hD : va_D A w9) (hS : va_S A s.heap H locs) (q : Nat → Nat) (h9 : w1 q = w9) (hv : v = va_rf o) (hmc : cells ≤ mc) (hms : slots ≤ ms) (hdg : decode bc pc = .ok (.areturn, 1)) :
    W p l e R s m args below meth c H locs cells slots (MQ below (va_Qq (fun r (_ : Unit) => r = o) (xB D cc wc sz w1) (va_A wc sz)) args s mc ms A) (F0 m pc ls [v]) := by
  obtain ⟨⟨hx, hb, -, -, -⟩, hr, hlk⟩ := F
  subst hAe; subst h9; subst hv
  refine W.widen hmc hms ?_
  exact W.aret hx hb hr (Or.inl ⟨rt, rfl⟩) (by cases o with | none => exact Or.inl rfl | some a => exact Or.inr ⟨a, rfl⟩) (fun t ht hW => ⟨⟨o, (), rfl, rfl, q, by rw [ht]; exact hP, va_K.moved hW.alike hK, hD⟩, hS.F ht⟩) hS.2.2 hdg hlk
theorem xendv (F : xFix p m c bc maxL s args Ts own meth none) (hsz : s.heap.size = sz) (hAe : A = va_A wc sz) (hK : va_K D vwCl (xTy cc) s) (hP : va_P D vwCl w9 H) (hD : va_D A w9) (hS : va_S A s.heap H locs) (q : Nat → Nat) (h9 : w1 q = w9) (hmc : cells ≤ mc) (hms : slots ≤ ms) (hdg : decode bc pc = .ok (.return_, 1)) :
    W p l e R s m args below meth c H locs cells slots (MQ below (va_Qv (fun (_ : Unit) => True) (xB D cc wc sz w1) (va_A wc sz)) args s mc ms A) (F0 m pc ls []) := by
  obtain ⟨⟨hx, hb, -, -, -⟩, hr, hlk⟩ := F
  subst hAe; subst h9
  refine W.widen hmc hms ?_
  exact W.vret hx hb hr (fun t ht hW => ⟨⟨(), rfl, trivial, q, by rw [ht]; exact hP, va_K.moved hW.alike hK, hD⟩, hS.F ht⟩) hS.2.2 hdg hlk
end XE
section XC
variable {p : Program} {l : Launch} {e : Env} {R : Room} {s : State} {m : MethodId} {args : Array Value} {below : List Frame} {meth : Method} {c : Code} {H H0 : Heap} {locs : List Loc} {cells slots : Nat} {Q : State → Prop}
variable {y : MethodName} {bytes bc : ByteArray} {maxL nL mc ms n index pc : Nat} {ret rt : Option FieldType} {wy : List Cond} {rm : Room} {Ts : List Cond} {own C host : String} {b : Addr} {As rest st0 : List Value} {ls : Array Slot} {D : va_G} {cc : Nat → ClassId} {ws wc wr : va_W} {A : Nat → Prop} {w1 : (Nat → Nat) → va_W} {Qc : Array Value → State → Outcome → State → Prop}
/-- a callee's world in the caller's, by places -/
def xIn (D : va_G) (H : Heap) (A : Nat → Prop) (ws wc : va_W) (isC : List Nat) : Prop := isC.map (fun i => ws[i]?) = wc.map some ∧ va_nd isC = true
theorem xpre {ws wc : va_W} (hK : va_K D vwCl (xTy cc) s) (hN : xN s) (hP : va_P D vwCl ws H) (hD : va_D A ws) (isC : List Nat) (hC : isC.map (fun i => ws[i]?) = wc.map some) (hn : va_nd isC = true) {av : List Value} : ∀ U : State, U.heap = H → s.WarmedH U.vm → va_Pc av (xP D cc wc H.size) av.toArray U := by
  intro U hU hW
  have hD1 := hD.sub isC hn hC
  have hC2 : isC.filterMap (fun i => ws[i]?) = wc := by
    clear hP hD hD1 hn
    induction isC generalizing wc with
    | nil => cases wc with
      | nil => rfl
      | cons a t => cases hC
    | cons i t ih => cases wc with
      | nil => cases hC
      | cons a w =>
        simp only [List.map_cons, List.cons.injEq] at hC
        rw [List.filterMap_cons, hC.1, ih hC.2]
  exact ⟨rfl, by rw [hU], by rw [hU]; exact hP.sub isC hC2, va_K.moved hW.alike hK, hD1.weaken (fun _ _ _ _ => trivial), hN.warm hW⟩
theorem xrunV {lv9 : List (Nat × Value)} (F : xFix p m c bc nL s args Ts own meth rt) (hM : Met l y wy rm (va_Pc (.ref b :: As) (xP D cc wc H.size)) Qc mc ms (va_A wc H.size)) (cw : CallW R s args own C index y bytes maxL ret wy rm mc ms n)
    (hK : va_K D vwCl (xTy cc) s) (hN : xN s) (hP : va_P D vwCl ws H) (hD : va_D A ws) (isC : List Nat) (hC : isC.map (fun i => ws[i]?) = wc.map some) (hnd : va_nd isC = true)
    {q0 ci : Nat} {fs : List Value} {q : vw_C} (he : ws[q0]? = some (b, .inr (ci, fs))) (hcl : vwCl[ci]? = some q) (hq : q.1 = C)
    (hn : As.length = n) (hls : lv_has ls nL lv9) (hst : st0 = As.reverse ++ .ref b :: rest) (hW : (rest.map fun v => v.category).sum ≤ 8) (hdg : decode bc pc = .ok (.invokevirtual index, 3)) (hf : cells + mc ≤ R.cells ∧ slots + ms ≤ R.slots) :
    va_Run p l e R s m args below meth c H locs cells slots mc ms (F0 m pc ls st0) rest (Qc (Value.ref b :: As).toArray) (va_A wc H.size) := by
  subst hq
  exact va_runV F.1 hM cw ⟨xP.blind, va_recv hK hP hcl he, xpre hK hN hP hD isC hC hnd⟩ rfl hn hls.1 hst (lv_room hW) hdg hf
theorem xrunVN {lv9 : List (Nat × Value)} (F : xFix p m c bc nL s args Ts own meth rt) (hM : Met l y wy rm (va_Pc (.ref b :: As) (xP D cc wc H.size)) Qc mc ms (va_A wc H.size)) (cw : va_CN R s args own index y host bytes maxL ret wy rm mc ms n ∧ (Cond.instanceMethod y).before args s = true ∧ (Cond.selects C y y).before args s = true)
    (hK : va_K D vwCl (xTy cc) s) (hN : xN s) (hP : va_P D vwCl ws H) (hD : va_D A ws) (isC : List Nat) (hC : isC.map (fun i => ws[i]?) = wc.map some) (hnd : va_nd isC = true)
    {q0 ci : Nat} {fs : List Value} {q : vw_C} (he : ws[q0]? = some (b, .inr (ci, fs))) (hcl : vwCl[ci]? = some q) (hq : q.1 = C)
    (hn : As.length = n) (hls : lv_has ls nL lv9) (hst : st0 = As.reverse ++ .ref b :: rest) (hW : (rest.map fun v => v.category).sum ≤ 8) (hdg : decode bc pc = .ok (.invokevirtual index, 3)) (hf : cells + mc ≤ R.cells ∧ slots + ms ≤ R.slots) :
    va_Run p l e R s m args below meth c H locs cells slots mc ms (F0 m pc ls st0) rest (Qc (Value.ref b :: As).toArray) (va_A wc H.size) := by
  subst hq
  exact va_runVN F.1 hM cw ⟨xP.blind, va_recv hK hP hcl he, xpre hK hN hP hD isC hC hnd⟩ rfl hn hls.1 hst (lv_room hW) hdg hf
theorem xrunS {lv9 : List (Nat × Value)} (F : xFix p m c bc nL s args Ts own meth rt) (hM : Met l y wy rm (va_Pc As (xP D cc wc H.size)) Qc mc ms (va_A wc H.size)) (cw : CallB R s args own index y bytes maxL ret wy rm mc ms n ∧ (Cond.static y).before args s = true)
    (hK : va_K D vwCl (xTy cc) s) (hN : xN s) (hP : va_P D vwCl ws H) (hD : va_D A ws) (isC : List Nat) (hC : isC.map (fun i => ws[i]?) = wc.map some) (hnd : va_nd isC = true)
    (hn : As.length = n) (hls : lv_has ls nL lv9) (hst : st0 = As.reverse ++ rest) (hW : (rest.map fun v => v.category).sum ≤ 8) (hdg : decode bc pc = .ok (.invokestatic index, 3)) (hf : cells + mc ≤ R.cells ∧ slots + ms ≤ R.slots) :
    va_Run p l e R s m args below meth c H locs cells slots mc ms (F0 m pc ls st0) rest (Qc As.toArray) (va_A wc H.size) :=
  va_runS F.1 hM cw ⟨xP.blind, xpre hK hN hP hD isC hC hnd⟩ rfl hn hls.1 hst (lv_room hW) hdg hf
theorem xrunSN {lv9 : List (Nat × Value)} (F : xFix p m c bc nL s args Ts own meth rt) (hM : Met l y wy rm (va_Pc As (xP D cc wc H.size)) Qc mc ms (va_A wc H.size)) (cw : va_CN R s args own index y host bytes maxL ret wy rm mc ms n ∧ (Cond.static y).before args s = true)
    (hK : va_K D vwCl (xTy cc) s) (hN : xN s) (hP : va_P D vwCl ws H) (hD : va_D A ws) (isC : List Nat) (hC : isC.map (fun i => ws[i]?) = wc.map some) (hnd : va_nd isC = true)
    (hn : As.length = n) (hls : lv_has ls nL lv9) (hst : st0 = As.reverse ++ rest) (hW : (rest.map fun v => v.category).sum ≤ 8) (hdg : decode bc pc = .ok (.invokestatic index, 3)) (hf : cells + mc ≤ R.cells ∧ slots + ms ≤ R.slots) :
    va_Run p l e R s m args below meth c H locs cells slots mc ms (F0 m pc ls st0) rest (Qc As.toArray) (va_A wc H.size) :=
  va_runSN F.1 hM ⟨cw.1, cw.2, trivial⟩ ⟨xP.blind, xpre hK hN hP hD isC hC hnd⟩ rfl hn hls.1 hst (lv_room hW) hdg hf
theorem xrunI (F : xFix p m c bc nL s args Ts own meth rt) {lv9 : List (Nat × Value)} (hM : Met l y wy rm (va_Pc (.ref b :: As) (xP D cc wc H.size)) Qc mc ms (va_A wc H.size)) (cw : CallB R s args own index y bytes maxL none wy rm mc ms n ∧ y.name = "<init>" ∧ (Cond.instanceMethod y).before args s = true)
    (hK : va_K D vwCl (xTy cc) s) (hN : xN s) (hP : va_P D vwCl ws H) (hD : va_D A ws) (isC : List Nat) (hC : isC.map (fun i => ws[i]?) = wc.map some) (hnd : va_nd isC = true)
    (hn : As.length = n) (hls : lv_has ls nL lv9) (hst : st0 = As.reverse ++ .ref b :: rest) (hW : (rest.map fun v => v.category).sum ≤ 8) (hdg : decode bc pc = .ok (.invokespecial index, 3)) (hf : cells + mc ≤ R.cells ∧ slots + ms ≤ R.slots) :
    va_Run p l e R s m args below meth c H locs cells slots mc ms (F0 m pc ls st0) rest (Qc (Value.ref b :: As).toArray) (va_A wc H.size) :=
  va_runI F.1 hM cw ⟨xP.blind, xpre hK hN hP hD isC hC hnd⟩ rfl hn hls.1 hst (lv_room hW) hdg hf
theorem xrunIN (F : xFix p m c bc nL s args Ts own meth rt) {lv9 : List (Nat × Value)} (hM : Met l y wy rm (va_Pc (.ref b :: As) (xP D cc wc H.size)) Qc mc ms (va_A wc H.size)) (cw : va_CN R s args own index y host bytes maxL none wy rm mc ms n ∧ y.name = "<init>" ∧ (Cond.instanceMethod y).before args s = true)
    (hK : va_K D vwCl (xTy cc) s) (hN : xN s) (hP : va_P D vwCl ws H) (hD : va_D A ws) (isC : List Nat) (hC : isC.map (fun i => ws[i]?) = wc.map some) (hnd : va_nd isC = true)
    (hn : As.length = n) (hls : lv_has ls nL lv9) (hst : st0 = As.reverse ++ .ref b :: rest) (hW : (rest.map fun v => v.category).sum ≤ 8) (hdg : decode bc pc = .ok (.invokespecial index, 3)) (hf : cells + mc ≤ R.cells ∧ slots + ms ≤ R.slots) :
    va_Run p l e R s m args below meth c H locs cells slots mc ms (F0 m pc ls st0) rest (Qc (Value.ref b :: As).toArray) (va_A wc H.size) :=
  va_runIN F.1 hM cw ⟨xP.blind, xpre hK hN hP hD isC hC hnd⟩ rfl hn hls.1 hst (lv_room hW) hdg hf
/-- new rows: their class is the one that is known -/
theorem xnewa (hexec : p.tables.exec = Jvm.exec) (hb : c.code = bc) {atype : ArrayType} (harr : (Cond.arrayClass (newarray.typeOf atype)).before args s = true) {ty : FieldType} (hty : newarray.typeOf atype = ty) (t0 : Nat) {cT : ClassId} (hct : (xTy cc)[t0]? = some (cT, ty)) (hp : ∀ cA : ClassId, va_RA s cA ty → s.vm.findClass ("[" ++ ty.toString) = some cA)
    (hK : va_K D vwCl (xTy cc) s) (hP : va_P D vwCl ws H) (hD : va_D A ws) (hS : va_S A H0 H locs) (hA : ∀ q, H0.size ≤ q → A q)
    {k : Int32} {N' : Nat} {a0 : vp_A} (ha : ∀ cA : ClassId, vp_cell cA a0 = arrV cA N' (fun _ => defaultValue ty)) (hn : ¬ k < 0) (hN : k.toNatClampNeg = N') (hbytes : N' * componentBytes ty ≤ 536870912) (hcells : cells + 1 ≤ R.cells) (hslots : slots + N' ≤ R.slots) (hdg : decode bc pc = .ok (.newarray atype, 2))
    (kk : ∀ (q : Nat) (H1 : Heap), va_P D vwCl (ws ++ [(q, .inl (cT, a0))]) H1 → va_D A (ws ++ [(q, .inl (cT, a0))]) → va_S A H0 H1 locs →
      W p l e R s m args below meth c H1 locs (cells + 1) (slots + N') Q (F0 m (pc + 2) ls (.ref q :: rest))) : W p l e R s m args below meth c H locs cells slots Q (F0 m pc ls (.int k :: rest)) := by
  refine va_newa hexec hb harr hty hK hP hD hS hA ha hn hN hbytes hcells hslots hdg (fun q cA H1 hK9 hP9 hD9 hS9 => ?_)
  have e1 := hp cA (hK9.2 4 _ rfl).2
  have e2 := hp cT (hK.2 t0 _ hct).2
  obtain rfl : cT = cA := Option.some.inj (e2.symm.trans e1)
  exact kk q H1 hP9 hD9 hS9
theorem xnewq (hexec : p.tables.exec = Jvm.exec) (hb : c.code = bc) (hown : s.vm.findClass own = some m.cls) (hclink : (Cond.classLink own index "RuledStrokes$State").before args s = true) (hNn : xN s)
    (hK : va_K D vwCl (xTy cc) s) (hP : va_P D vwCl ws H) (hD : va_D A ws) (hS : va_S A H0 H locs) (hA : ∀ q, H0.size ≤ q → A q)
    {k : Int32} {N' : Nat} (hn : ¬ k < 0) (hN : k.toNatClampNeg = N') (hbytes : N' * 4 ≤ 536870912) (hcells : cells + 1 ≤ R.cells) (hslots : slots + N' ≤ R.slots) (hdg : decode bc pc = .ok (.anewarray index, 3))
    (kk : ∀ (q : Nat) (H1 : Heap), va_P D vwCl (ws ++ [(q, .inl (cc 2, N', .inr (.inr (.inr (.inr (fun _ => none))))))]) H1 → va_D A (ws ++ [(q, .inl (cc 2, N', .inr (.inr (.inr (.inr (fun _ => none))))))]) → va_S A H0 H1 locs →
      W p l e R s m args below meth c H1 locs (cells + 1) (slots + N') Q (F0 m (pc + 3) ls (.ref q :: rest))) : W p l e R s m args below meth c H locs cells slots Q (F0 m pc ls (.int k :: rest)) := by
  refine va_newq hexec hb hown hclink hNn.2 hK hP hD hS hA hn hN hbytes hcells hslots hdg (fun q cA H1 hK9 hP9 hD9 hS9 => ?_)
  obtain ⟨k1, c1, -, -, -, e1⟩ := (hK9.2 4 _ rfl).2
  obtain ⟨k2, c2, -, -, -, e2⟩ := (hK.2 2 _ rfl).2
  obtain rfl : cc 2 = cA := Option.some.inj (e2.symm.trans e1)
  exact kk q H1 hP9 hD9 hS9
/-- behind a call -/
theorem xafter {H1 : Heap} (hP : va_P D vwCl ws H) (hD : va_D A ws) (hS : va_S A H0 H locs) (hA : ∀ q, H0.size ≤ q → A q) (isC isR : List Nat) (hC : isC.map (fun i => ws[i]?) = wc.map some) (hR : isR.map (fun i => ws[i]?) = wr.map some) (hnR : va_nd isR = true) (hdis : ∀ i ∈ isR, i ∉ isC) {t : State} {u : Unit} (ht : t.heap = H1) (hB : xB D cc wc H.size w1 u t) (hk : ∀ q : Nat, q < H.size → ¬ va_A wc H.size q → H1[q]? = H[q]?) : ∃ q : Nat → Nat, va_P D vwCl (wr ++ w1 q) H1 ∧ va_D A (wr ++ w1 q) := by
  obtain ⟨q, hP1, -, hD1⟩ := hB
  rw [ht] at hP1
  exact ⟨q, va_join hP hD isC isR hC hR hnR hdis hk (va_free hD hS hA isC hC) hP1 hD1⟩
theorem xcalli {args9 : Array Value} {v : Int32} (isC isR : List Nat) (hr : va_Run p l e R s m args below meth c H locs cells slots mc ms (F0 m pc ls st0) rest (va_Qi (fun r (_ : Unit) => r = v) (xB D cc wc H.size w1) (va_A wc H.size) args9) (va_A wc H.size)) (hP : va_P D vwCl ws H) (hD : va_D A ws) (hS : va_S A H0 H locs) (hA : ∀ q, H0.size ≤ q → A q) (hC : isC.map (fun i => ws[i]?) = wc.map some) (hR : isR.map (fun i => ws[i]?) = wr.map some) (hnR : va_nd isR = true) (hdis : ∀ i ∈ isR, i ∉ isC)
    (kk : ∀ (q : Nat → Nat) (H1 : Heap) (locs1 : List Loc), va_P D vwCl (wr ++ w1 q) H1 → va_D A (wr ++ w1 q) → va_S A H0 H1 locs1 → W p l e R s m args below meth c H1 locs1 (cells + mc) (slots + ms) Q (F0 m (pc + 3) ls (.int v :: rest))) : W p l e R s m args below meth c H locs cells slots Q (F0 m pc ls st0) := by
  have hF := va_free hD hS hA isC hC
  refine va_calli hr hS (fun q _ h => hF q h) hF (fun r u t H1 locs1 ht hvm hw hB hz1 hk1 hS => ?_)
  obtain ⟨q, h1, h2⟩ := xafter hP hD (by assumption) hA isC isR hC hR hnR hdis ht hB hk1
  rw [hw]
  exact kk q H1 locs1 h1 h2 hS
theorem xcalll {args9 : Array Value} {v : Int64} (isC isR : List Nat) (hr : va_Run p l e R s m args below meth c H locs cells slots mc ms (F0 m pc ls st0) rest (va_Ql (fun r (_ : Unit) => r = v) (xB D cc wc H.size w1) (va_A wc H.size) args9) (va_A wc H.size)) (hP : va_P D vwCl ws H) (hD : va_D A ws) (hS : va_S A H0 H locs) (hA : ∀ q, H0.size ≤ q → A q) (hC : isC.map (fun i => ws[i]?) = wc.map some) (hR : isR.map (fun i => ws[i]?) = wr.map some) (hnR : va_nd isR = true) (hdis : ∀ i ∈ isR, i ∉ isC)
    (kk : ∀ (q : Nat → Nat) (H1 : Heap) (locs1 : List Loc), va_P D vwCl (wr ++ w1 q) H1 → va_D A (wr ++ w1 q) → va_S A H0 H1 locs1 → W p l e R s m args below meth c H1 locs1 (cells + mc) (slots + ms) Q (F0 m (pc + 3) ls (.long v :: rest))) : W p l e R s m args below meth c H locs cells slots Q (F0 m pc ls st0) := by
  have hF := va_free hD hS hA isC hC
  refine va_calll hr hS (fun q _ h => hF q h) hF (fun r u t H1 locs1 ht hvm hw hB hz1 hk1 hS => ?_)
  obtain ⟨q, h1, h2⟩ := xafter hP hD (by assumption) hA isC isR hC hR hnR hdis ht hB hk1
  rw [hw]
  exact kk q H1 locs1 h1 h2 hS
theorem xcallq {args9 : Array Value} {o : Option Nat} (isC isR : List Nat) (hr : va_Run p l e R s m args below meth c H locs cells slots mc ms (F0 m pc ls st0) rest (va_Qq (fun r (_ : Unit) => r = o) (xB D cc wc H.size w1) (va_A wc H.size) args9) (va_A wc H.size)) (hP : va_P D vwCl ws H) (hD : va_D A ws) (hS : va_S A H0 H locs) (hA : ∀ q, H0.size ≤ q → A q) (hC : isC.map (fun i => ws[i]?) = wc.map some) (hR : isR.map (fun i => ws[i]?) = wr.map some) (hnR : va_nd isR = true) (hdis : ∀ i ∈ isR, i ∉ isC)
    (kk : ∀ (q : Nat → Nat) (H1 : Heap) (locs1 : List Loc), va_P D vwCl (wr ++ w1 q) H1 → va_D A (wr ++ w1 q) → va_S A H0 H1 locs1 → W p l e R s m args below meth c H1 locs1 (cells + mc) (slots + ms) Q (F0 m (pc + 3) ls (va_rf o :: rest))) : W p l e R s m args below meth c H locs cells slots Q (F0 m pc ls st0) := by
  have hF := va_free hD hS hA isC hC
  refine va_callq hr hS (fun q _ h => hF q h) hF (fun r u t H1 locs1 ht hvm hw hB hz1 hk1 hS => ?_)
  obtain ⟨q, h1, h2⟩ := xafter hP hD (by assumption) hA isC isR hC hR hnR hdis ht hB hk1
  rw [hw]
  exact kk q H1 locs1 h1 h2 hS
theorem xcallv {args9 : Array Value} (isC isR : List Nat) (hr : va_Run p l e R s m args below meth c H locs cells slots mc ms (F0 m pc ls st0) rest (va_Qv (fun (_ : Unit) => True) (xB D cc wc H.size w1) (va_A wc H.size) args9) (va_A wc H.size)) (hP : va_P D vwCl ws H) (hD : va_D A ws) (hS : va_S A H0 H locs) (hA : ∀ q, H0.size ≤ q → A q) (hC : isC.map (fun i => ws[i]?) = wc.map some) (hR : isR.map (fun i => ws[i]?) = wr.map some) (hnR : va_nd isR = true) (hdis : ∀ i ∈ isR, i ∉ isC)
    (kk : ∀ (q : Nat → Nat) (H1 : Heap) (locs1 : List Loc), va_P D vwCl (wr ++ w1 q) H1 → va_D A (wr ++ w1 q) → va_S A H0 H1 locs1 → W p l e R s m args below meth c H1 locs1 (cells + mc) (slots + ms) Q (F0 m (pc + 3) ls rest)) : W p l e R s m args below meth c H locs cells slots Q (F0 m pc ls st0) := by
  have hF := va_free hD hS hA isC hC
  refine va_callv hr hS (fun q _ h => hF q h) hF (fun u t H1 locs1 ht hvm hw hB hz1 hk1 hS => ?_)
  obtain ⟨q, h1, h2⟩ := xafter hP hD (by assumption) hA isC isR hC hR hnR hdis ht hB hk1
  exact kk q H1 locs1 h1 h2 hS
end XC
end XCORE
