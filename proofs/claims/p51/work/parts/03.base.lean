/-! ===== the memory that the two systems share: numbers by (place, index); a place z + a of the heap stands for a ===== -/
abbrev tvM : Type := (Nat → Nat → Int32) × (Nat → Nat → Int64) × (Nat → Nat → UInt64)
abbrev tvR : Type := Nat → Nat → Option Nat
def tgi (M : tvM) (a k : Nat) : Int32 := M.1 a k
def tgl (M : tvM) (a k : Nat) : Int64 := M.2.1 a k
def tgd (M : tvM) (a k : Nat) : UInt64 := M.2.2 a k
def tvU {α : Type} (f : Nat → Nat → α) (a k : Nat) (v : α) : Nat → Nat → α := fun x j => if x = a ∧ j = k then v else f x j
def tpi (M : tvM) (a k : Nat) (v : Int32) : tvM := (tvU M.1 a k v, M.2.1, M.2.2)
def tpl (M : tvM) (a k : Nat) (v : Int64) : tvM := (M.1, tvU M.2.1 a k v, M.2.2)
def tpd (M : tvM) (a k : Nat) (v : UInt64) : tvM := (M.1, M.2.1, tvU M.2.2 a k v)
theorem tvU_ne {α : Type} (f : Nat → Nat → α) {a j : Nat} (k : Nat) (v : α) (h : j ≠ a) : tvU f a k v j = f j := funext fun i => by simp [tvU, h]
theorem tvU_row {α : Type} (f : Nat → Nat → α) (a k : Nat) (v : α) (i : Nat) : tvU f a k v a i = if i = k then v else f a i := by simp [tvU]
/-- the kind of a place: 0 an object (its class), 1 .. 5 an array (its length) -/
def tvStL : List (Nat × Nat) := [(0, 6), (0, 7), (0, 2), (1, 8), (1, 8), (1, 8), (0, 0), (1, 10), (1, 10), (1, 10), (2, 10), (1, 10), (1, 10), (1, 10), (1, 10), (1, 50), (0, 4), (2, 12), (1, 12), (1, 12)]
def tvShL : List (Nat × Nat) := (0, 8) :: (tvStL ++ tvStL ++ tvStL ++ [(0, 1), (5, 9)] ++ tvStL ++ tvStL ++ tvStL ++ tvStL ++ tvStL ++ tvStL ++ tvStL ++ tvStL ++ tvStL ++ [(0, 5), (2, 60), (1, 60), (1, 180), (0, 3), (2, 36)])
def tvSh (a : Nat) : Nat × Nat := tvShL.getD a (6, 0)
def tvCl : List vw_C := [(RX0, TX0, 10), (RX1, TX1, 3), (RX2, TX2, 4), (RX3, TX3, 2), (RX4, TX4, 5), (RX5, TX5, 6), (RX6, TX6, 9), (RX7, TX7, 2), (RX8, TX8, 10), (RJ4, TJ4, 4), (RJ0, TJ0, 4)]
def tvTy : Nat → Nat → FieldType
  | 0 => tyX0
  | 1 => tyX1
  | 2 => tyX2
  | 3 => tyX3
  | 4 => tyX4
  | 5 => tyX5
  | 6 => tyX6
  | 7 => tyX7
  | 8 => tyX8
  | 9 => tyJ4
  | _ => tyJ0
def tvN (ci : Nat) : Nat := [10, 3, 4, 2, 5, 6, 9, 2, 10, 4, 4].getD ci 0
/-- what stands for a reference -/
def tvRf (z : Nat) (r : Option Nat) : Value := va_rf (r.map (fun q => z + q))
def tvFv (z : Nat) (fi : Nat → Int32) (fl : Nat → Int64) (fr : Nat → Option Nat) (ty : FieldType) (k : Nat) : Value := match ty with
  | .long => .long (fl k)
  | .object _ => tvRf z (fr k)
  | .array _ => tvRf z (fr k)
  | _ => .int (fi k)
def tvEnt (z : Nat) (cA : Nat → ClassId) (s : Nat × Nat) (fi : Nat → Int32) (fl : Nat → Int64) (fd : Nat → UInt64) (fr : Nat → Option Nat) : va_E := match s.1 with
  | 0 => .inr (s.2, (List.range (tvN s.2)).map (fun k => tvFv z fi fl fr (tvTy s.2 k) k))
  | 1 => .inl (cA 0, s.2, .inl fi)
  | 2 => .inl (cA 1, s.2, .inl (fun k => vp_nar .char (fi k)))
  | 3 => .inl (cA 2, s.2, .inr (.inl fl))
  | 4 => .inl (cA 3, s.2, .inr (.inr (.inr (.inl fd))))
  | _ => .inl (cA 4, s.2, .inr (.inr (.inr (.inr (fun k => (fr k).map (fun q => z + q))))))
/-- the bound of what is kept, the script (place, length, numbers) -/
abbrev tvGx : Type := Nat × (Nat × Nat × (Nat → Int32))
/-- launch, first place, class numbers and slots, array classes (int, char, byte, double, State), the text constants' places, the rest -/
abbrev tvG : Type := Launch × Nat × va_G × (Nat → ClassId) × (Nat → Nat) × (Nat → Nat) × tvGx
abbrev tvG.w (G : tvG) : Nat := G.2.2.2.2.2.2.1
/-- the same with another bound -/
def tvG.up (G : tvG) (w : Nat) : tvG := (G.1, G.2.1, G.2.2.1, G.2.2.2.1, G.2.2.2.2.1, G.2.2.2.2.2.1, w, G.2.2.2.2.2.2.2)
abbrev tvG.sb (G : tvG) : Nat := G.2.2.2.2.2.2.2.1
abbrev tvG.sl (G : tvG) : Nat := G.2.2.2.2.2.2.2.2.1
abbrev tvG.sx (G : tvG) : Nat → Int32 := G.2.2.2.2.2.2.2.2.2
/-- how many places there are, their references, whether the heap ends there, further cells -/
abbrev tvPh : Type := Nat × tvR × Prop × va_W
/-- what a method may change: the places, and all from the bound on -/
def tvA (G : tvG) : Nat → Prop := fun q => G.2.1 ≤ q ∧ (q < G.2.1 + 249 ∨ G.w ≤ q)
def tvTys (G : tvG) : List (ClassId × FieldType) := [(G.2.2.2.1 0, .int), (G.2.2.2.1 1, .char), (G.2.2.2.1 2, .byte), (G.2.2.2.1 3, .byte), (G.2.2.2.1 4, .object RX6)]
def tvWs (G : tvG) (P : tvPh) (M : tvM) : va_W := (List.range P.1).map (fun a => (G.2.1 + a, tvEnt G.2.1 G.2.2.2.1 (tvSh a) (M.1 a) (M.2.1 a) (M.2.2 a) (P.2.1 a)))
/-- the further cells -/
def tvXc (G : tvG) (X : va_W) (H : Heap) : Prop := va_P G.2.2.1 tvCl X H ∧ va_D (fun q => G.2.1 + 249 ≤ q ∧ G.w ≤ q) X
theorem tvXc_nil (G : tvG) (H : Heap) : tvXc G [] H := ⟨fun k q h => by simp at h, fun i j p q h => by simp at h, fun k q h => by simp at h⟩
def tvP (G : tvG) (P : tvPh) (M : tvM) (H : Heap) : Prop := va_P G.2.2.1 tvCl (tvWs G P M) H ∧ (P.2.2.1 → H.size = G.2.1 + P.1) ∧ P.1 ≤ 249 ∧ tvXc G P.2.2.2 H
/-- no further cells, and no making under way -/
def tvEx (P : tvPh) : Prop := ¬ P.2.2.1 ∧ P.2.2.2 = []
/-- a making under way -/
def tvIn (P : tvPh) : Prop := P.2.2.1 ∧ P.2.2.2 = []
theorem tvEx_ok {G : tvG} {P : tvPh} {M : tvM} {H H1 : Heap} (h : tvEx P) (hP : tvP G P M H) : (P.2.2.1 → H1.size = G.2.1 + P.1) ∧ P.1 ≤ 249 ∧ tvXc G P.2.2.2 H1 := ⟨fun q => absurd q h.1, hP.2.2.1, by rw [h.2]; exact tvXc_nil G H1⟩
theorem tvIn_trivial {n : Nat} {ρ : tvR} : tvIn (n, ρ, True, []) := ⟨trivial, rfl⟩
theorem tvWs_len (G : tvG) (P : tvPh) (M : tvM) : (tvWs G P M).length = P.1 := by simp [tvWs]
theorem tvWs_get (G : tvG) (P : tvPh) (M : tvM) {a : Nat} (h : a < P.1) : (tvWs G P M)[a]? = some (G.2.1 + a, tvEnt G.2.1 G.2.2.2.1 (tvSh a) (M.1 a) (M.2.1 a) (M.2.2 a) (P.2.1 a)) := by simp [tvWs, h]
theorem tvWs_inv (G : tvG) (P : tvPh) (M : tvM) {i : Nat} {q : Nat × va_E} (h : (tvWs G P M)[i]? = some q) : i < P.1 ∧ q.1 = G.2.1 + i := by
  simp only [tvWs, List.getElem?_map, Option.map_eq_some_iff] at h
  obtain ⟨a, h1, rfl⟩ := h
  obtain ⟨h2, h3⟩ := List.getElem?_eq_some_iff.mp h1
  simp at h2 h3
  exact ⟨h2, by rw [← h3]⟩
theorem tvWs_D (G : tvG) (P : tvPh) (M : tvM) (hn : P.1 ≤ 249) : va_D (tvA G) (tvWs G P M) := by
  refine ⟨fun i j p q hp hq h => ?_, fun k q h => ?_⟩
  · have h1 := (tvWs_inv G P M hp).2
    have h2 := (tvWs_inv G P M hq).2
    omega
  · show G.2.1 ≤ q.1 ∧ (q.1 < G.2.1 + 249 ∨ G.w ≤ q.1)
    have h1 := tvWs_inv G P M h
    omega
/-- one place's entry anew -/
theorem tvWs_set (G : tvG) (P : tvPh) (ρ' : tvR) (M M' : tvM) {a : Nat} {e : va_E} (ha : a < P.1) (hoff : ∀ j, j ≠ a → M.1 j = M'.1 j ∧ M.2.1 j = M'.2.1 j ∧ M.2.2 j = M'.2.2 j ∧ P.2.1 j = ρ' j)
    (he : tvEnt G.2.1 G.2.2.2.1 (tvSh a) (M'.1 a) (M'.2.1 a) (M'.2.2 a) (ρ' a) = e) : (tvWs G P M).set a (G.2.1 + a, e) = tvWs G (P.1, ρ', P.2.2) M' := by
  apply List.ext_getElem?
  intro i
  rcases Nat.lt_or_ge i P.1 with hi | hi
  · rw [tvWs_get G (P.1, ρ', P.2.2) M' hi]
    by_cases hia : i = a
    · subst hia
      rw [List.getElem?_set_self (by rw [tvWs_len]; exact ha), he]
    · rw [List.getElem?_set_ne (fun h => hia h.symm), tvWs_get G P M hi]
      obtain ⟨h1, h2, h3, h4⟩ := hoff i hia
      rw [h1, h2, h3, h4]
  · rw [List.getElem?_eq_none (by rw [List.length_set, tvWs_len]; exact hi), List.getElem?_eq_none (by rw [tvWs_len]; exact hi)]
theorem tvRow_len (n : Nat) (f : Nat → Value) : ((List.range n).map f).length = n := by simp
theorem tvRow_get (n : Nat) (f : Nat → Value) {k : Nat} (h : k < n) : ((List.range n).map f)[k]? = some (f k) := by simp [h]
theorem tvRow_set (n : Nat) (f g : Nat → Value) {k : Nat} (v : Value) (hv : g k = v) (hg : ∀ j, j ≠ k → f j = g j) : ((List.range n).map f).set k v = (List.range n).map g := by
  apply List.ext_getElem?
  intro i
  rcases Nat.lt_or_ge i n with hi | hi
  · rw [tvRow_get n g hi]
    by_cases h : i = k
    · subst h
      rw [List.getElem?_set_self (by simpa using hi), hv]
    · rw [List.getElem?_set_ne (fun q => h q.symm), tvRow_get n f hi, hg i h]
  · rw [List.getElem?_eq_none (by simpa using hi), List.getElem?_eq_none (by simpa using hi)]

/-! ===== the text constants: class, entry, text, number; the first 18 are read as texts ===== -/
def tvStr : List (String × Nat × String × Nat) := [("TideVault$Program", 93, "holder ", 0), ("TideVault$Program", 95, "box ", 1), ("TideVault$Program", 97, "tide ", 2), ("TideVault$Program", 99, "turn ", 3), ("TideVault$Program", 101, "code ", 4), ("TideVault$Program", 103, "put ", 5), ("TideVault$Program", 105, "take ", 6), ("TideVault$Program", 107, "close ", 7), ("TideVault$Program", 109, "wait", 8), ("TideVault$Program", 52, " n", 9), ("TideVault$Program", 111, "n", 10), ("TideVault$Program", 113, "d&d+n", 11), ("TideVault$Program", 115, "n/n", 12), ("TideVault$Program", 117, "d d=n", 13), ("TideVault$Program", 119, "d n>n", 14), ("TideVault$Program", 121, "d=n", 15), ("TideVault$Program", 123, "d", 16), ("TideVault$Program", 125, "", 17), ("TideVaultLaw", 150, " ", 27), ("TideVaultLaw", 152, "=", 28), ("TideVaultLaw", 154, ";wait ", 29), ("TideVaultLaw", 160, ";put ", 30), ("TideVaultLaw", 162, ";take ", 31), ("TideVaultLaw", 164, ";close ", 32), ("TideVault", 373, "no such number", 33), ("TideVault", 375, "not allowed as an argument", 34), ("TideVault", 377, "not possible now", 35), ("TideVault", 379, "the code is wrong", 36), ("TideVault", 381, "there is none", 37), ("TideVault", 227, "no such rank", 38), ("TideVault", 359, "no change can be undone", 39), ("TideVault", 368, "no state was saved", 40), ("java/util/Arrays", 337, " > ", 41), ("TideVault", 307, "the program buffer is full", 42), ("TideVault", 318, "the text is not a program", 43), ("TideVault", 343, "a command fails", 44), ("TideVault", 217, "no such pearl", 45), ("TideVault", 181, "not a holder of the box", 46), ("TideVaultLaw", 141, "turn ", 3)]
def tvLen : List Nat := [7, 4, 5, 5, 5, 4, 5, 6, 4, 2, 1, 5, 3, 5, 5, 3, 1, 0, 4, 6, 3, 3, 3, 4, 5, 3, 3]
def tvByt : List (List Int32) := [[104, 111, 108, 100, 101, 114, 32], [98, 111, 120, 32], [116, 105, 100, 101, 32], [116, 117, 114, 110, 32], [99, 111, 100, 101, 32], [112, 117, 116, 32], [116, 97, 107, 101, 32], [99, 108, 111, 115, 101, 32], [119, 97, 105, 116], [32, 110], [110], [100, 38, 100, 43, 110], [110, 47, 110], [100, 32, 100, 61, 110], [100, 32, 110, 62, 110], [100, 61, 110], [100], [], [99, 104, 112, 111], [111, 108, 100, 101, 114, 32], [111, 120, 32], [114, 110, 32], [100, 101, 32], [97, 107, 101, 32], [108, 111, 115, 101, 32], [117, 116, 32], [97, 105, 116]]
/-- the law's own -/
def tvLenL : List Nat := [1, 1, 6, 5, 6, 7]
def tvBytL : List (List Int32) := [[32], [61], [59, 119, 97, 105, 116, 32], [59, 112, 117, 116, 32], [59, 116, 97, 107, 101, 32], [59, 99, 108, 111, 115, 101, 32]]
abbrev tvNS : Nat := 18
def tvIsN (w : Cond) : Bool := match w with
  | .fieldLinkNest .. => true
  | .methodLinkNest .. => true
  | .declares .. => true
  | .castable .. => true
  | .privateMethod .. => true
  | _ => false
def tvNest : List Cond := lw_tbl.filter tvIsN
theorem tvn {w : Cond} (i : Nat) (h : lw_tbl[i]? = some w) (hg : tvIsN w = true) : w ∈ tvNest := List.mem_filter.mpr ⟨List.mem_of_getElem? h, hg⟩
theorem va_NwP {x : MethodName} {s U : State} (hW : s.WarmedH U.vm) (hZ : va_Nw (.privateMethod x) s) : va_Nw (.privateMethod x) U := va_tabs rfl (rfl : (s.setVm U.vm).vm = U.vm) (by rw [Cond.privateMethod_setVm hW.alike]; exact hZ)
theorem tvNest_warm {w : Cond} {s U : State} (hw : w ∈ tvNest) (hW : s.WarmedH U.vm) (h : va_Nw w s) : va_Nw w U := by
  have h1 : tvIsN w = true := (List.mem_filter.mp hw).2
  cases w <;> first | (cases h1; done) | exact va_Nw.warmF hW h | exact va_Nw.warmM hW h | exact va_Nw.warmD hW h | exact va_Nw.warmC hW h | exact va_NwP hW h
theorem tvNest_same {w : Cond} {s U : State} (hw : w ∈ tvNest) (hW : s.vm = U.vm) (h : va_Nw w s) : va_Nw w U := by
  have h1 : tvIsN w = true := (List.mem_filter.mp hw).2
  cases w <;> first | (cases h1; done) | exact va_Nw.same rfl hW h
def tvNcs : List (String × String) := [("java/lang/IndexOutOfBoundsException", "java/lang/IllegalArgumentException"), ("java/lang/IndexOutOfBoundsException", "java/lang/IllegalStateException"), ("java/lang/IndexOutOfBoundsException", "java/lang/UnsupportedOperationException"), ("java/lang/IndexOutOfBoundsException", "java/util/NoSuchElementException"), ("java/lang/IllegalArgumentException", "java/lang/IndexOutOfBoundsException"), ("java/lang/IllegalArgumentException", "java/lang/IllegalStateException"), ("java/lang/IllegalArgumentException", "java/lang/UnsupportedOperationException"), ("java/lang/IllegalArgumentException", "java/util/NoSuchElementException"), ("java/lang/IllegalStateException", "java/lang/IndexOutOfBoundsException"), ("java/lang/IllegalStateException", "java/lang/IllegalArgumentException"), ("java/lang/IllegalStateException", "java/lang/UnsupportedOperationException"), ("java/lang/IllegalStateException", "java/util/NoSuchElementException"), ("java/lang/UnsupportedOperationException", "java/lang/IndexOutOfBoundsException"), ("java/lang/UnsupportedOperationException", "java/lang/IllegalArgumentException"), ("java/lang/UnsupportedOperationException", "java/lang/IllegalStateException"), ("java/lang/UnsupportedOperationException", "java/util/NoSuchElementException"), ("java/util/NoSuchElementException", "java/lang/IndexOutOfBoundsException"), ("java/util/NoSuchElementException", "java/lang/IllegalArgumentException"), ("java/util/NoSuchElementException", "java/lang/IllegalStateException"), ("java/util/NoSuchElementException", "java/lang/UnsupportedOperationException")]
def tvNcE (U : State) : Prop := ∀ q ∈ tvNcs, va_Nc q.1 q.2 U
theorem tvNcE.go {s U : State} (h : tvNcE s) (hW : s.WarmedH U.vm) : tvNcE U := fun q hq => va_Nc.moved hW.alike (h q hq)
/-- the JDK's two tables of digits -/
def tvDg (n : String) (f : Nat → Int32) (A : Nat → Prop) (U : State) (H : Heap) : Prop := ∃ q : Nat, va_Z "java/lang/Integer" n "[B" (.ref q) A U H ∧ va_T .byte q 100 (fun j => .int (f j)) A U H
theorem tvDg.moved {n : String} {f : Nat → Int32} {A : Nat → Prop} {u U : State} {H : Heap} (hvm : u.vm.Alike U.vm) (h : tvDg n f A u H) : tvDg n f A U H := by
  obtain ⟨q, a, b⟩ := h
  exact ⟨q, va_Z.moved hvm a, va_T.moved hvm b⟩
theorem tvDg.kept {n : String} {f : Nat → Int32} {A : Nat → Prop} {U : State} {H H1 : Heap} (h : tvDg n f A U H) (hq : ∀ a : Nat, a < H.size → ¬ A a → H1[a]? = H[a]?) : tvDg n f A U H1 := by
  obtain ⟨q, a, b⟩ := h
  exact ⟨q, a.kept hq, b.kept hq⟩
theorem tvDg.narrow {n : String} {f : Nat → Int32} {A B : Nat → Prop} {U : State} {H : Heap} (h : tvDg n f A U H) (hAB : ∀ q, B q → A q) : tvDg n f B U H := by
  obtain ⟨q, a, b⟩ := h
  exact ⟨q, a.narrow hAB, b.narrow hAB⟩
/-- what a state knows beside the memory -/
def tvK (G : tvG) (U : State) (H : Heap) : Prop := va_K G.2.2.1 tvCl (tvTys G) U ∧ (∀ w ∈ tvNest, va_Nw w U) ∧ (∀ q ∈ tvStr, vk_R q.1 q.2.1 q.2.2.1 (G.2.2.2.2.1 q.2.2.2) U) ∧ vk_S tvNS tvLen tvByt G.2.2.2.2.1 G.2.2.2.2.2.1 (tvA G) U H ∧ vx_Zq Bundle.tN "UNASSIGNED_STACK" Bundle.steD (tvA G) U H ∧ vx_Zq Bundle.tN "SUPPRESSED_SENTINEL" Bundle.listD (tvA G) U H ∧ (G.2.1 ≤ H.size ∧ G.w ≤ H.size) ∧ G.1.stackTraces = false ∧ va_Z "java/lang/String" "COMPACT_STRINGS" "Z" (.int 1) (tvA G) U H ∧ va_Zq "jdk/internal/util/Preconditions" "SIOOBE_FORMATTER" "Ljava/util/function/BiFunction;" (tvA G) U H ∧ va_AO RX6 U ∧ (va_X G.sb G.sl G.sx U H ∧ G.sb < H.size ∧ ¬ tvA G G.sb ∧ G.sl ≤ 260) ∧ (tvDg "DigitOnes" (fun j => nI (48 + j % 10)) (tvA G) U H ∧ tvDg "DigitTens" (fun j => nI (48 + j / 10)) (tvA G) U H) ∧ vk_S 6 tvLenL tvBytL (fun j => G.2.2.2.2.1 (27 + j)) (fun j => G.2.2.2.2.2.1 (27 + j)) (tvA G) U H ∧ tvNcE U
theorem tvK.go {G : tvG} {s U : State} {H : Heap} {locs : List Loc} (h : tvK G s s.heap) (hS : va_S (tvA G) s.heap H locs) (hU : U.heap = H) (hW : s.WarmedH U.vm) : tvK G U U.heap := by
  obtain ⟨h1, h2, h3, h4, h5, h6, h7, h8, h9, h10, h11, ⟨h12, h13, h14, h15⟩, h16, h18, h17⟩ := h
  subst hU
  exact ⟨va_K.moved hW.alike h1, fun w hw => tvNest_warm hw hW (h2 w hw), fun q hq => vk_R.warm hW (h3 q hq), vk_S.moved hW.alike (h4.kept hS.2.1), vx_Zq.moved hW.alike (h5.kept hS.2.1), vx_Zq.moved hW.alike (h6.kept hS.2.1), ⟨Nat.le_trans h7.1 hS.1, Nat.le_trans h7.2 hS.1⟩, h8, va_Z.moved hW.alike (h9.kept hS.2.1), va_Zq.moved hW.alike (h10.kept hS.2.1), va_AO.moved hW.alike h11, ⟨va_X.moved hW.alike (h12.kept (hS.2.1 _ h13 h14)), Nat.lt_of_lt_of_le h13 hS.1, h14, h15⟩, ⟨tvDg.moved hW.alike (h16.1.kept hS.2.1), tvDg.moved hW.alike (h16.2.kept hS.2.1)⟩, vk_S.moved hW.alike (h18.kept hS.2.1), h17.go hW⟩
theorem tvK.calling {G : tvG} {U : State} {g : JFrame} {mk : MethodId} {a : Array Value} (h : tvK G U U.heap) : tvK G (U.calling g mk a) (U.calling g mk a).heap := by
  obtain ⟨h1, h2, h3, h4, h5, h6, h7, h8, h9, h10, h11, ⟨h12, h13, h14, h15⟩, h16, h18, h17⟩ := h
  exact ⟨va_K.moved (u := U) (U := U.calling g mk a) (Vm.Alike.refl U.vm) h1, fun w hw => tvNest_same (s := U) (U := U.calling g mk a) hw rfl (h2 w hw), fun q hq => vk_R.same (u := U) (U := U.calling g mk a) rfl (h3 q hq), vk_S.moved (u := U) (U := U.calling g mk a) (Vm.Alike.refl U.vm) h4, vx_Zq.moved (u := U) (U := U.calling g mk a) (Vm.Alike.refl U.vm) h5, vx_Zq.moved (u := U) (U := U.calling g mk a) (Vm.Alike.refl U.vm) h6, h7, h8, va_Z.moved (u := U) (U := U.calling g mk a) (Vm.Alike.refl U.vm) h9, va_Zq.moved (u := U) (U := U.calling g mk a) (Vm.Alike.refl U.vm) h10, va_AO.moved (u := U) (U := U.calling g mk a) (Vm.Alike.refl U.vm) h11, ⟨va_X.moved (u := U) (U := U.calling g mk a) (Vm.Alike.refl U.vm) h12, h13, h14, h15⟩, ⟨tvDg.moved (u := U) (U := U.calling g mk a) (Vm.Alike.refl U.vm) h16.1, tvDg.moved (u := U) (U := U.calling g mk a) (Vm.Alike.refl U.vm) h16.2⟩, vk_S.moved (u := U) (U := U.calling g mk a) (Vm.Alike.refl U.vm) h18, fun q hq => va_Nc.moved (u := U) (U := U.calling g mk a) (Vm.Alike.refl U.vm) (h17 q hq)⟩
def tvPre (G : tvG) (P : tvPh) (M : tvM) (U : State) : Prop := tvP G P M U.heap ∧ tvK G U U.heap
abbrev tvO : Type := Option Value ⊕ String
def tvQc (G : tvG) (P : tvPh) (M : tvM) (o : tvO) : Array Value → State → Outcome → State → Prop := fun _ st oc t => ∃ v : Option Value, o = .inl v ∧ oc = .returned v ∧ tvP G P M t.heap ∧ va_F (tvA G) st t
def tvXC (G : tvG) (P : tvPh) (M : tvM) (o : tvO) : String → State → State → Prop := fun E st t => o = .inr E ∧ tvP G P M t.heap ∧ va_F (tvA G) st t
def tvRm (d mc ms : Nat) : Room := { frames := d, cells := mc, slots := ms, locals := 64 * d }
def tvWd (y : MethodName) (cc : ByteArray) (n : Nat) (ret : Option FieldType) : List Cond := .code y cc n ret :: tvGW
/-- the contract of a method: from the memory M it ends as o says, with the memory M1 -/
def tvRun (G : tvG) (y : MethodName) (cc : ByteArray) (n : Nat) (ret : Option FieldType) (d mc ms : Nat) (P P1 : tvPh) (args : List Value) (M : tvM) (o : tvO) (M1 : tvM) : Prop :=
  vx_Met G.1 y (tvWd y cc n ret) (tvRm d mc ms) (va_Pc args (tvPre G P M)) (tvQc G P1 M1 o) (tvXC G P1 M1 o) mc ms (tvA G)
theorem tvPre_blind {G : tvG} {P : tvPh} {M : tvM} {args : List Value} : FrameBlind (va_Pc args (tvPre G P M)) := fun _ _ _ _ h => ⟨h.1, h.2.1, h.2.2.calling⟩
/-! ===== the walk ===== -/
abbrev tvE : Type := (Program × Env × Room × State × MethodId × Array Value × List Frame × Method × Code) × tvG × (State → Prop)
abbrev tvE.R (E : tvE) : Room := E.1.2.2.1
abbrev tvE.s (E : tvE) : State := E.1.2.2.2.1
abbrev tvE.m (E : tvE) : MethodId := E.1.2.2.2.2.1
abbrev tvE.args (E : tvE) : Array Value := E.1.2.2.2.2.2.1
abbrev tvE.below (E : tvE) : List Frame := E.1.2.2.2.2.2.2.1
abbrev tvE.meth (E : tvE) : Method := E.1.2.2.2.2.2.2.2.1
abbrev tvE.c (E : tvE) : Code := E.1.2.2.2.2.2.2.2.2
abbrev tvE.G (E : tvE) : tvG := E.2.1
abbrev tvw (E : tvE) (H : Heap) (locs : List Loc) (k sl : Nat) (g : JFrame) : Prop := W E.1.1 E.2.1.1 E.1.2.1 E.R E.s E.m E.args E.below E.meth E.c H locs k sl E.2.2 g
def tvEl : Nat → List (Option Value) → List (Nat × Value)
  | _, [] => []
  | i, none :: r => tvEl (i + 1) r
  | i, some v :: r => (i, v) :: tvEl (i + 1) r
theorem tvEl_mem {q : Nat × Value} : ∀ (L : List (Option Value)) (i : Nat), q ∈ tvEl i L ↔ ∃ j, q.1 = i + j ∧ L[j]? = some (some q.2) := by
  intro L
  induction L with
  | nil => intro i; simp [tvEl]
  | cons x r ih =>
    intro i
    have key : (∃ j, q.1 = i + j ∧ (x :: r)[j]? = some (some q.2)) ↔ ((q.1 = i ∧ x = some q.2) ∨ ∃ j, q.1 = i + 1 + j ∧ r[j]? = some (some q.2)) := by
      constructor
      · rintro ⟨j, h1, h2⟩
        cases j with
        | zero => exact Or.inl ⟨by simpa using h1, by simpa using h2⟩
        | succ j => exact Or.inr ⟨j, by omega, by simpa using h2⟩
      · rintro (⟨h1, h2⟩ | ⟨j, h1, h2⟩)
        · exact ⟨0, by simpa using h1, by simpa using h2⟩
        · exact ⟨j + 1, by omega, by simpa using h2⟩
    rw [key]
    cases x with
    | none => simp [tvEl, ih]
    | some v =>
      simp only [tvEl, List.mem_cons, ih]
      constructor
      · rintro (rfl | h)
        · exact Or.inl ⟨rfl, rfl⟩
        · exact Or.inr h
      · rintro (⟨h1, h2⟩ | h)
        · cases h2; exact Or.inl (by rw [← h1])
        · exact Or.inr h
def tvLok (L : List (Option Value)) (n : Nat) (ls : Array Slot) : Prop := lv_has ls n (tvEl 0 L)
theorem tvLok.at {L : List (Option Value)} {n : Nat} {ls : Array Slot} (h : tvLok L n ls) {i : Nat} {v : Value} (hi : L[i]? = some (some v)) : ls[i]? = some (.val v) := h.2.2 (i, v) ((tvEl_mem L 0).mpr ⟨i, by simp, hi⟩)
/-- below the place i stands no wide value -/
def tvNo2 (L : List (Option Value)) (i : Nat) : Bool := match i with
  | 0 => true
  | j + 1 => match L[j]? with
    | some (some w) => w.category == 1
    | _ => true
theorem tvLok.st1 {L : List (Option Value)} {n : Nat} {ls : Array Slot} {i : Nat} {v : Value} (hlt : i < L.length) (hno : tvNo2 L i = true) (h : lv_has ls n ((i, v) :: (tvEl 0 L).filter (fun q => !(q.1 == i) && !(q.1 + 1 == i && q.2.category == 2)))) : tvLok (L.set i (some v)) n ls := by
  refine ⟨h.1, h.2.1, fun q hq => h.2.2 q ?_⟩
  obtain ⟨j, h1, h2⟩ := (tvEl_mem _ 0).mp hq
  have hj : q.1 = j := by omega
  by_cases e : j = i
  · subst e
    rw [List.getElem?_set_self hlt] at h2
    cases q with | mk a b => simp at h2 hj; subst hj; subst h2; exact List.mem_cons_self
  · rw [List.getElem?_set_ne (fun x => e x.symm)] at h2
    refine List.mem_cons_of_mem _ (List.mem_filter.mpr ⟨(tvEl_mem L 0).mpr ⟨j, h1, h2⟩, ?_⟩)
    by_cases e2 : j + 1 = i
    · subst e2
      simp only [tvNo2, h2] at hno
      have h3 : q.2.category = 1 := by simpa using hno
      simp [hj, h3]
    · simp [hj, e, e2]
theorem tvLok.st2 {L : List (Option Value)} {n : Nat} {ls : Array Slot} {i : Nat} {v : Value} (hlt : i + 1 < L.length) (hno : tvNo2 L i = true) (h : lv_has ls n ((i, v) :: (tvEl 0 L).filter (fun q => !(q.1 == i) && (!(q.1 == i + 1) && !(q.1 + 1 == i && q.2.category == 2))))) : tvLok ((L.set i (some v)).set (i + 1) none) n ls := by
  refine ⟨h.1, h.2.1, fun q hq => h.2.2 q ?_⟩
  obtain ⟨j, h1, h2⟩ := (tvEl_mem _ 0).mp hq
  have hj : q.1 = j := by omega
  by_cases e0 : j = i + 1
  · subst e0
    rw [List.getElem?_set_self (by simpa using hlt)] at h2
    cases h2
  · rw [List.getElem?_set_ne (fun x => e0 x.symm)] at h2
    by_cases e : j = i
    · subst e
      rw [List.getElem?_set_self (by omega)] at h2
      cases q with | mk a b => simp at h2 hj; subst hj; subst h2; exact List.mem_cons_self
    · rw [List.getElem?_set_ne (fun x => e x.symm)] at h2
      refine List.mem_cons_of_mem _ (List.mem_filter.mpr ⟨(tvEl_mem L 0).mpr ⟨j, h1, h2⟩, ?_⟩)
      by_cases e2 : j + 1 = i
      · subst e2
        simp only [tvNo2, h2] at hno
        have h3 : q.2.category = 1 := by simpa using hno
        simp [hj, h3]; omega
      · simp [hj, e, e2, e0]
def tv_W (E : tvE) (P : tvPh) (k sl : Nat) (M : tvM) (pc : Nat) (L : List (Option Value)) (st : List Value) : Prop :=
  ∀ (H : Heap) (locs : List Loc) (ls : Array Slot), tvP E.G P M H → va_S (tvA E.G) E.s.heap H locs → tvLok L E.c.maxLocals ls → tvw E H locs k sl (F0 E.m pc ls st)
/-- the fixed facts of a body -/
def tvC (E : tvE) (own : String) (cc : ByteArray) (nL : Nat) (ret : Option FieldType) (d mc ms : Nat) (tb : List ExceptionTableEntry) : Prop :=
  E.1.1.tables.exec = Jvm.exec ∧ E.c.code = cc ∧ E.c.maxLocals = nL ∧ E.s.vm.findClass own = some E.m.cls ∧ (∀ w ∈ tvGW, w.before E.args E.s = true) ∧ tvK E.G E.s E.s.heap ∧ E.R = tvRm d mc ms ∧ E.meth.locks = false ∧ E.meth.sig.returnType = ret ∧ E.c.exceptionTable.toList = tb
/-- the instruction at a place, and the next place -/
def tvD (cc : ByteArray) (pc : Nat) (i : Instr) (n pc' : Nat) : Prop := decode cc pc = .ok (i, n) ∧ pc + n = pc'
/-- .. that may jump -/
def tvJ (cc : ByteArray) (pc : Nat) (i : Int → Instr) (t pc' : Nat) : Prop := ∃ off : Int, decode cc pc = .ok (i off, 3) ∧ (pc : Int) + off = (t : Int) ∧ pc + 3 = pc'
section TVR
variable {E : tvE} {P : tvPh} {k sl d mc ms nL pc pc' : Nat} {M : tvM} {L : List (Option Value)} {st : List Value} {own : String} {cc : ByteArray} {ret : Option FieldType} {tb : List ExceptionTableEntry}
theorem tv_iload_n {j : Fin 4} {x : Int32} (C : tvC E own cc nL ret d mc ms tb) (hd : tvD cc pc (.iload_n j) 1 pc') (hl0 : L[(j : Nat)]? = some (some (.int x))) (kk : tv_W E P k sl M pc' L (.int x :: st)) : tv_W E P k sl M pc L (st) := by
  obtain ⟨hd, rfl⟩ := hd
  exact fun H locs ls hP hS hl => lv_iload_n C.1 C.2.1 hd rfl (hl.at hl0) (kk H locs ls hP hS hl)
theorem tv_iload {j : Nat} {x : Int32} (C : tvC E own cc nL ret d mc ms tb) (hd : tvD cc pc (.iload j) 2 pc') (hl0 : L[j]? = some (some (.int x))) (kk : tv_W E P k sl M pc' L (.int x :: st)) : tv_W E P k sl M pc L (st) := by
  obtain ⟨hd, rfl⟩ := hd
  exact fun H locs ls hP hS hl => lv_iload C.1 C.2.1 hd (hl.at hl0) (kk H locs ls hP hS hl)
theorem tv_lload_n {j : Fin 4} {x : Int64} (C : tvC E own cc nL ret d mc ms tb) (hd : tvD cc pc (.lload_n j) 1 pc') (hl0 : L[(j : Nat)]? = some (some (.long x))) (kk : tv_W E P k sl M pc' L (.long x :: st)) : tv_W E P k sl M pc L (st) := by
  obtain ⟨hd, rfl⟩ := hd
  exact fun H locs ls hP hS hl => lv_lload_n C.1 C.2.1 hd rfl (hl.at hl0) (kk H locs ls hP hS hl)
theorem tv_lload {j : Nat} {x : Int64} (C : tvC E own cc nL ret d mc ms tb) (hd : tvD cc pc (.lload j) 2 pc') (hl0 : L[j]? = some (some (.long x))) (kk : tv_W E P k sl M pc' L (.long x :: st)) : tv_W E P k sl M pc L (st) := by
  obtain ⟨hd, rfl⟩ := hd
  exact fun H locs ls hP hS hl => lv_lload C.1 C.2.1 hd (hl.at hl0) (kk H locs ls hP hS hl)
theorem tv_fload_n {j : Fin 4} {x : UInt32} (C : tvC E own cc nL ret d mc ms tb) (hd : tvD cc pc (.fload_n j) 1 pc') (hl0 : L[(j : Nat)]? = some (some (.float x))) (kk : tv_W E P k sl M pc' L (.float x :: st)) : tv_W E P k sl M pc L (st) := by
  obtain ⟨hd, rfl⟩ := hd
  exact fun H locs ls hP hS hl => lv_fload_n C.1 C.2.1 hd rfl (hl.at hl0) (kk H locs ls hP hS hl)
theorem tv_fload {j : Nat} {x : UInt32} (C : tvC E own cc nL ret d mc ms tb) (hd : tvD cc pc (.fload j) 2 pc') (hl0 : L[j]? = some (some (.float x))) (kk : tv_W E P k sl M pc' L (.float x :: st)) : tv_W E P k sl M pc L (st) := by
  obtain ⟨hd, rfl⟩ := hd
  exact fun H locs ls hP hS hl => lv_fload C.1 C.2.1 hd (hl.at hl0) (kk H locs ls hP hS hl)
theorem tv_dload_n {j : Fin 4} {x : UInt64} (C : tvC E own cc nL ret d mc ms tb) (hd : tvD cc pc (.dload_n j) 1 pc') (hl0 : L[(j : Nat)]? = some (some (.double x))) (kk : tv_W E P k sl M pc' L (.double x :: st)) : tv_W E P k sl M pc L (st) := by
  obtain ⟨hd, rfl⟩ := hd
  exact fun H locs ls hP hS hl => lv_dload_n C.1 C.2.1 hd rfl (hl.at hl0) (kk H locs ls hP hS hl)
theorem tv_dload {j : Nat} {x : UInt64} (C : tvC E own cc nL ret d mc ms tb) (hd : tvD cc pc (.dload j) 2 pc') (hl0 : L[j]? = some (some (.double x))) (kk : tv_W E P k sl M pc' L (.double x :: st)) : tv_W E P k sl M pc L (st) := by
  obtain ⟨hd, rfl⟩ := hd
  exact fun H locs ls hP hS hl => lv_dload C.1 C.2.1 hd (hl.at hl0) (kk H locs ls hP hS hl)
theorem tv_aload_n {j : Fin 4} {x : Nat} (C : tvC E own cc nL ret d mc ms tb) (hd : tvD cc pc (.aload_n j) 1 pc') (hl0 : L[(j : Nat)]? = some (some (.ref x))) (kk : tv_W E P k sl M pc' L (.ref x :: st)) : tv_W E P k sl M pc L (st) := by
  obtain ⟨hd, rfl⟩ := hd
  exact fun H locs ls hP hS hl => lv_aload_n C.1 C.2.1 hd rfl (hl.at hl0) (kk H locs ls hP hS hl)
theorem tv_aload {j : Nat} {x : Nat} (C : tvC E own cc nL ret d mc ms tb) (hd : tvD cc pc (.aload j) 2 pc') (hl0 : L[j]? = some (some (.ref x))) (kk : tv_W E P k sl M pc' L (.ref x :: st)) : tv_W E P k sl M pc L (st) := by
  obtain ⟨hd, rfl⟩ := hd
  exact fun H locs ls hP hS hl => lv_aload C.1 C.2.1 hd (hl.at hl0) (kk H locs ls hP hS hl)
theorem tv_iconst {n : Int} {v : Int32} (C : tvC E own cc nL ret d mc ms tb) (hd : tvD cc pc (.iconst n) 1 pc') (hv : Int32.ofInt n = v) (kk : tv_W E P k sl M pc' L (.int v :: st)) : tv_W E P k sl M pc L (st) := by
  obtain ⟨hd, rfl⟩ := hd
  exact fun H locs ls hP hS hl => lv_iconst C.1 C.2.1 hd hv (kk H locs ls hP hS hl)
theorem tv_bipush {n : Int} {v : Int32} (C : tvC E own cc nL ret d mc ms tb) (hd : tvD cc pc (.bipush n) 2 pc') (hv : (Int8.ofInt n).toInt32 = v) (kk : tv_W E P k sl M pc' L (.int v :: st)) : tv_W E P k sl M pc L (st) := by
  obtain ⟨hd, rfl⟩ := hd
  exact fun H locs ls hP hS hl => lv_bipush C.1 C.2.1 hd hv (kk H locs ls hP hS hl)
theorem tv_sipush {n : Int} {v : Int32} (C : tvC E own cc nL ret d mc ms tb) (hd : tvD cc pc (.sipush n) 3 pc') (hv : (Int16.ofInt n).toInt32 = v) (kk : tv_W E P k sl M pc' L (.int v :: st)) : tv_W E P k sl M pc L (st) := by
  obtain ⟨hd, rfl⟩ := hd
  exact fun H locs ls hP hS hl => lv_sipush C.1 C.2.1 hd hv (kk H locs ls hP hS hl)
theorem tv_lconst {n : Fin 2} {v : Int64} (C : tvC E own cc nL ret d mc ms tb) (hd : tvD cc pc (.lconst n) 1 pc') (hv : Int64.ofNat (n : Nat) = v) (kk : tv_W E P k sl M pc' L (.long v :: st)) : tv_W E P k sl M pc L (st) := by
  obtain ⟨hd, rfl⟩ := hd
  exact fun H locs ls hP hS hl => lv_lconst C.1 C.2.1 hd hv (kk H locs ls hP hS hl)
theorem tv_fconst0  (C : tvC E own cc nL ret d mc ms tb) (hd : tvD cc pc (.fconst 0) 1 pc')  (kk : tv_W E P k sl M pc' L (.float FP.fconst0 :: st)) : tv_W E P k sl M pc L (st) := by
  obtain ⟨hd, rfl⟩ := hd
  exact fun H locs ls hP hS hl => lv_fconst0 C.1 C.2.1 hd (kk H locs ls hP hS hl)
theorem tv_dconst0  (C : tvC E own cc nL ret d mc ms tb) (hd : tvD cc pc (.dconst 0) 1 pc')  (kk : tv_W E P k sl M pc' L (.double FP.dconst0 :: st)) : tv_W E P k sl M pc L (st) := by
  obtain ⟨hd, rfl⟩ := hd
  exact fun H locs ls hP hS hl => lv_dconst0 C.1 C.2.1 hd (kk H locs ls hP hS hl)
theorem tv_iadd {x y : Int32} (C : tvC E own cc nL ret d mc ms tb) (hd : tvD cc pc (.iadd) 1 pc')  (kk : tv_W E P k sl M pc' L (.int (x + y) :: st)) : tv_W E P k sl M pc L (.int y :: .int x :: st) := by
  obtain ⟨hd, rfl⟩ := hd
  exact fun H locs ls hP hS hl => lv_iadd C.1 C.2.1 hd (kk H locs ls hP hS hl)
theorem tv_isub {x y : Int32} (C : tvC E own cc nL ret d mc ms tb) (hd : tvD cc pc (.isub) 1 pc')  (kk : tv_W E P k sl M pc' L (.int (x - y) :: st)) : tv_W E P k sl M pc L (.int y :: .int x :: st) := by
  obtain ⟨hd, rfl⟩ := hd
  exact fun H locs ls hP hS hl => lv_isub C.1 C.2.1 hd (kk H locs ls hP hS hl)
theorem tv_imul {x y : Int32} (C : tvC E own cc nL ret d mc ms tb) (hd : tvD cc pc (.imul) 1 pc')  (kk : tv_W E P k sl M pc' L (.int (x * y) :: st)) : tv_W E P k sl M pc L (.int y :: .int x :: st) := by
  obtain ⟨hd, rfl⟩ := hd
  exact fun H locs ls hP hS hl => lv_imul C.1 C.2.1 hd (kk H locs ls hP hS hl)
theorem tv_iand {x y : Int32} (C : tvC E own cc nL ret d mc ms tb) (hd : tvD cc pc (.iand) 1 pc')  (kk : tv_W E P k sl M pc' L (.int (x &&& y) :: st)) : tv_W E P k sl M pc L (.int y :: .int x :: st) := by
  obtain ⟨hd, rfl⟩ := hd
  exact fun H locs ls hP hS hl => lv_iand C.1 C.2.1 hd (kk H locs ls hP hS hl)
theorem tv_ixor {x y : Int32} (C : tvC E own cc nL ret d mc ms tb) (hd : tvD cc pc (.ixor) 1 pc')  (kk : tv_W E P k sl M pc' L (.int (x ^^^ y) :: st)) : tv_W E P k sl M pc L (.int y :: .int x :: st) := by
  obtain ⟨hd, rfl⟩ := hd
  exact fun H locs ls hP hS hl => lv_ixor C.1 C.2.1 hd (kk H locs ls hP hS hl)
theorem tv_idiv {x y : Int32} (C : tvC E own cc nL ret d mc ms tb) (hd : tvD cc pc (.idiv) 1 pc') (h0 : ¬ y = 0) (kk : tv_W E P k sl M pc' L (.int (x / y) :: st)) : tv_W E P k sl M pc L (.int y :: .int x :: st) := by
  obtain ⟨hd, rfl⟩ := hd
  exact fun H locs ls hP hS hl => lv_idiv C.1 C.2.1 hd h0 (kk H locs ls hP hS hl)
theorem tv_irem {x y : Int32} (C : tvC E own cc nL ret d mc ms tb) (hd : tvD cc pc (.irem) 1 pc') (h0 : ¬ y = 0) (kk : tv_W E P k sl M pc' L (.int (x - x / y * y) :: st)) : tv_W E P k sl M pc L (.int y :: .int x :: st) := by
  obtain ⟨hd, rfl⟩ := hd
  exact fun H locs ls hP hS hl => lv_irem C.1 C.2.1 hd h0 (kk H locs ls hP hS hl)
theorem tv_ladd {x y : Int64} (C : tvC E own cc nL ret d mc ms tb) (hd : tvD cc pc (.ladd) 1 pc')  (kk : tv_W E P k sl M pc' L (.long (x + y) :: st)) : tv_W E P k sl M pc L (.long y :: .long x :: st) := by
  obtain ⟨hd, rfl⟩ := hd
  exact fun H locs ls hP hS hl => lv_ladd C.1 C.2.1 hd (kk H locs ls hP hS hl)
theorem tv_lsub {x y : Int64} (C : tvC E own cc nL ret d mc ms tb) (hd : tvD cc pc (.lsub) 1 pc')  (kk : tv_W E P k sl M pc' L (.long (x - y) :: st)) : tv_W E P k sl M pc L (.long y :: .long x :: st) := by
  obtain ⟨hd, rfl⟩ := hd
  exact fun H locs ls hP hS hl => lv_lsub C.1 C.2.1 hd (kk H locs ls hP hS hl)
theorem tv_lcmp {x y : Int64} (C : tvC E own cc nL ret d mc ms tb) (hd : tvD cc pc (.lcmp) 1 pc')  (kk : tv_W E P k sl M pc' L (.int (lg_cmp x y) :: st)) : tv_W E P k sl M pc L (.long y :: .long x :: st) := by
  obtain ⟨hd, rfl⟩ := hd
  exact fun H locs ls hP hS hl => W.lcmp C.1 C.2.1 hd (kk H locs ls hP hS hl)
theorem tv_i2l {x : Int32} (C : tvC E own cc nL ret d mc ms tb) (hd : tvD cc pc (.i2l) 1 pc')  (kk : tv_W E P k sl M pc' L (.long x.toInt64 :: st)) : tv_W E P k sl M pc L (.int x :: st) := by
  obtain ⟨hd, rfl⟩ := hd
  exact fun H locs ls hP hS hl => lv_i2l C.1 C.2.1 hd rfl (kk H locs ls hP hS hl)
theorem tv_i2c {x : Int32} (C : tvC E own cc nL ret d mc ms tb) (hd : tvD cc pc (.i2c) 1 pc')  (kk : tv_W E P k sl M pc' L (.int (x.toUInt32 % 65536).toInt32 :: st)) : tv_W E P k sl M pc L (.int x :: st) := by
  obtain ⟨hd, rfl⟩ := hd
  exact fun H locs ls hP hS hl => lv_i2c C.1 C.2.1 hd rfl (kk H locs ls hP hS hl)
theorem tv_i2f {x : Int32} (C : tvC E own cc nL ret d mc ms tb) (hd : tvD cc pc (.i2f) 1 pc')  (kk : tv_W E P k sl M pc' L (.float (FP.i2f x) :: st)) : tv_W E P k sl M pc L (.int x :: st) := by
  obtain ⟨hd, rfl⟩ := hd
  exact fun H locs ls hP hS hl => lv_i2f C.1 C.2.1 hd (kk H locs ls hP hS hl)
theorem tv_i2d {x : Int32} (C : tvC E own cc nL ret d mc ms tb) (hd : tvD cc pc (.i2d) 1 pc')  (kk : tv_W E P k sl M pc' L (.double (FP.i2d x) :: st)) : tv_W E P k sl M pc L (.int x :: st) := by
  obtain ⟨hd, rfl⟩ := hd
  exact fun H locs ls hP hS hl => lv_i2d C.1 C.2.1 hd (kk H locs ls hP hS hl)
theorem tv_l2d {x : Int64} (C : tvC E own cc nL ret d mc ms tb) (hd : tvD cc pc (.l2d) 1 pc')  (kk : tv_W E P k sl M pc' L (.double (FP.l2d x) :: st)) : tv_W E P k sl M pc L (.long x :: st) := by
  obtain ⟨hd, rfl⟩ := hd
  exact fun H locs ls hP hS hl => lv_l2d C.1 C.2.1 hd (kk H locs ls hP hS hl)
theorem tv_f2d {x : UInt32} (C : tvC E own cc nL ret d mc ms tb) (hd : tvD cc pc (.f2d) 1 pc') (h0 : vf_n64 (FP.f2d x)) (kk : tv_W E P k sl M pc' L (.double (FP.f2d x) :: st)) : tv_W E P k sl M pc L (.float x :: st) := by
  obtain ⟨hd, rfl⟩ := hd
  exact fun H locs ls hP hS hl => lv_f2d C.1 C.2.1 hd h0 (kk H locs ls hP hS hl)
theorem tv_fdiv {x y : UInt32} (C : tvC E own cc nL ret d mc ms tb) (hd : tvD cc pc (.fdiv) 1 pc') (h0 : vf_n32 (FP.fdiv x y)) (kk : tv_W E P k sl M pc' L (.float (FP.fdiv x y) :: st)) : tv_W E P k sl M pc L (.float y :: .float x :: st) := by
  obtain ⟨hd, rfl⟩ := hd
  exact fun H locs ls hP hS hl => lv_fdiv C.1 C.2.1 hd h0 (kk H locs ls hP hS hl)
theorem tv_ddiv {x y : UInt64} (C : tvC E own cc nL ret d mc ms tb) (hd : tvD cc pc (.ddiv) 1 pc') (h0 : vf_n64 (FP.ddiv x y)) (kk : tv_W E P k sl M pc' L (.double (FP.ddiv x y) :: st)) : tv_W E P k sl M pc L (.double y :: .double x :: st) := by
  obtain ⟨hd, rfl⟩ := hd
  exact fun H locs ls hP hS hl => lv_ddiv C.1 C.2.1 hd h0 (kk H locs ls hP hS hl)
theorem tv_dcmp {x y : UInt64} {op : CmpOp} (C : tvC E own cc nL ret d mc ms tb) (hd : tvD cc pc (.dcmp op) 1 pc')  (kk : tv_W E P k sl M pc' L (.int (Op.cmpValue (FP.dcmp x y) op) :: st)) : tv_W E P k sl M pc L (.double y :: .double x :: st) := by
  obtain ⟨hd, rfl⟩ := hd
  exact fun H locs ls hP hS hl => lv_dcmp C.1 C.2.1 hd (kk H locs ls hP hS hl)
theorem tv_fcmp {x y : UInt32} {op : CmpOp} (C : tvC E own cc nL ret d mc ms tb) (hd : tvD cc pc (.fcmp op) 1 pc')  (kk : tv_W E P k sl M pc' L (.int (Op.cmpValue (FP.fcmp x y) op) :: st)) : tv_W E P k sl M pc L (.float y :: .float x :: st) := by
  obtain ⟨hd, rfl⟩ := hd
  exact fun H locs ls hP hS hl => lv_fcmp C.1 C.2.1 hd (kk H locs ls hP hS hl)
theorem tv_dup {v : Value} (C : tvC E own cc nL ret d mc ms tb) (hd : tvD cc pc (.dup) 1 pc') (hc : v.category = 1) (kk : tv_W E P k sl M pc' L (v :: v :: st)) : tv_W E P k sl M pc L (v :: st) := by
  obtain ⟨hd, rfl⟩ := hd
  exact fun H locs ls hP hS hl => lv_dup C.1 C.2.1 hd hc (kk H locs ls hP hS hl)
theorem tv_pop {v : Value} (C : tvC E own cc nL ret d mc ms tb) (hd : tvD cc pc (.pop) 1 pc') (hc : v.category = 1) (kk : tv_W E P k sl M pc' L (st)) : tv_W E P k sl M pc L (v :: st) := by
  obtain ⟨hd, rfl⟩ := hd
  exact fun H locs ls hP hS hl => lv_pop C.1 C.2.1 hd hc (kk H locs ls hP hS hl)
theorem tv_dup2 {v w : Value} (C : tvC E own cc nL ret d mc ms tb) (hd : tvD cc pc (.dup2) 1 pc') (hc : v.category = 1) (hc2 : w.category = 1) (kk : tv_W E P k sl M pc' L (v :: w :: v :: w :: st)) : tv_W E P k sl M pc L (v :: w :: st) := by
  obtain ⟨hd, rfl⟩ := hd
  exact fun H locs ls hP hS hl => lv_dup2_11 C.1 C.2.1 hd hc hc2 (kk H locs ls hP hS hl)
theorem tv_goto {t : Nat} (C : tvC E own cc nL ret d mc ms tb) (hd : tvJ cc pc .goto t pc') (kk : tv_W E P k sl M t L st) : tv_W E P k sl M pc L st := by
  obtain ⟨off, hd, ht, -⟩ := hd
  exact fun H locs ls hP hS hl => lv_goto C.1 C.2.1 hd ht (kk H locs ls hP hS hl)
theorem tv_icmp_eq {x y : Int32} {t : Nat} (C : tvC E own cc nL ret d mc ms tb) (hd : tvJ cc pc (.if_icmp .eq) t pc') (kt : x = y → tv_W E P k sl M t L st) (kf : ¬ x = y → tv_W E P k sl M pc' L st) : tv_W E P k sl M pc L (.int y :: .int x :: st) := by
  obtain ⟨off, hd, ht, rfl⟩ := hd
  exact fun H locs ls hP hS hl => lv_icmp_eq C.1 C.2.1 hd ht (fun h => kt h H locs ls hP hS hl) (fun h => kf h H locs ls hP hS hl)
theorem tv_icmp_ne {x y : Int32} {t : Nat} (C : tvC E own cc nL ret d mc ms tb) (hd : tvJ cc pc (.if_icmp .ne) t pc') (kt : ¬ x = y → tv_W E P k sl M t L st) (kf : x = y → tv_W E P k sl M pc' L st) : tv_W E P k sl M pc L (.int y :: .int x :: st) := by
  obtain ⟨off, hd, ht, rfl⟩ := hd
  exact fun H locs ls hP hS hl => lv_icmp_ne C.1 C.2.1 hd ht (fun h => kt h H locs ls hP hS hl) (fun h => kf h H locs ls hP hS hl)
theorem tv_icmp_lt {x y : Int32} {t : Nat} (C : tvC E own cc nL ret d mc ms tb) (hd : tvJ cc pc (.if_icmp .lt) t pc') (kt : x < y → tv_W E P k sl M t L st) (kf : ¬ x < y → tv_W E P k sl M pc' L st) : tv_W E P k sl M pc L (.int y :: .int x :: st) := by
  obtain ⟨off, hd, ht, rfl⟩ := hd
  exact fun H locs ls hP hS hl => lv_icmp_lt C.1 C.2.1 hd ht (fun h => kt h H locs ls hP hS hl) (fun h => kf h H locs ls hP hS hl)
theorem tv_icmp_ge {x y : Int32} {t : Nat} (C : tvC E own cc nL ret d mc ms tb) (hd : tvJ cc pc (.if_icmp .ge) t pc') (kt : y ≤ x → tv_W E P k sl M t L st) (kf : ¬ y ≤ x → tv_W E P k sl M pc' L st) : tv_W E P k sl M pc L (.int y :: .int x :: st) := by
  obtain ⟨off, hd, ht, rfl⟩ := hd
  exact fun H locs ls hP hS hl => lv_icmp_ge C.1 C.2.1 hd ht (fun h => kt h H locs ls hP hS hl) (fun h => kf h H locs ls hP hS hl)
theorem tv_icmp_gt {x y : Int32} {t : Nat} (C : tvC E own cc nL ret d mc ms tb) (hd : tvJ cc pc (.if_icmp .gt) t pc') (kt : y < x → tv_W E P k sl M t L st) (kf : ¬ y < x → tv_W E P k sl M pc' L st) : tv_W E P k sl M pc L (.int y :: .int x :: st) := by
  obtain ⟨off, hd, ht, rfl⟩ := hd
  exact fun H locs ls hP hS hl => lv_icmp_gt C.1 C.2.1 hd ht (fun h => kt h H locs ls hP hS hl) (fun h => kf h H locs ls hP hS hl)
theorem tv_icmp_le {x y : Int32} {t : Nat} (C : tvC E own cc nL ret d mc ms tb) (hd : tvJ cc pc (.if_icmp .le) t pc') (kt : x ≤ y → tv_W E P k sl M t L st) (kf : ¬ x ≤ y → tv_W E P k sl M pc' L st) : tv_W E P k sl M pc L (.int y :: .int x :: st) := by
  obtain ⟨off, hd, ht, rfl⟩ := hd
  exact fun H locs ls hP hS hl => lv_icmp_le C.1 C.2.1 hd ht (fun h => kt h H locs ls hP hS hl) (fun h => kf h H locs ls hP hS hl)
theorem tv_if_eq {x : Int32} {t : Nat} (C : tvC E own cc nL ret d mc ms tb) (hd : tvJ cc pc (.ifCond .eq) t pc') (kt : x = 0 → tv_W E P k sl M t L st) (kf : ¬ x = 0 → tv_W E P k sl M pc' L st) : tv_W E P k sl M pc L (.int x :: st) := by
  obtain ⟨off, hd, ht, rfl⟩ := hd
  exact fun H locs ls hP hS hl => lv_if_eq C.1 C.2.1 hd ht (fun h => kt h H locs ls hP hS hl) (fun h => kf h H locs ls hP hS hl)
theorem tv_if_ne {x : Int32} {t : Nat} (C : tvC E own cc nL ret d mc ms tb) (hd : tvJ cc pc (.ifCond .ne) t pc') (kt : ¬ x = 0 → tv_W E P k sl M t L st) (kf : x = 0 → tv_W E P k sl M pc' L st) : tv_W E P k sl M pc L (.int x :: st) := by
  obtain ⟨off, hd, ht, rfl⟩ := hd
  exact fun H locs ls hP hS hl => lv_if_ne C.1 C.2.1 hd ht (fun h => kt h H locs ls hP hS hl) (fun h => kf h H locs ls hP hS hl)
theorem tv_if_lt {x : Int32} {t : Nat} (C : tvC E own cc nL ret d mc ms tb) (hd : tvJ cc pc (.ifCond .lt) t pc') (kt : x < 0 → tv_W E P k sl M t L st) (kf : ¬ x < 0 → tv_W E P k sl M pc' L st) : tv_W E P k sl M pc L (.int x :: st) := by
  obtain ⟨off, hd, ht, rfl⟩ := hd
  exact fun H locs ls hP hS hl => lv_if_lt C.1 C.2.1 hd ht (fun h => kt h H locs ls hP hS hl) (fun h => kf h H locs ls hP hS hl)
theorem tv_if_ge {x : Int32} {t : Nat} (C : tvC E own cc nL ret d mc ms tb) (hd : tvJ cc pc (.ifCond .ge) t pc') (kt : 0 ≤ x → tv_W E P k sl M t L st) (kf : ¬ 0 ≤ x → tv_W E P k sl M pc' L st) : tv_W E P k sl M pc L (.int x :: st) := by
  obtain ⟨off, hd, ht, rfl⟩ := hd
  exact fun H locs ls hP hS hl => lv_if_ge C.1 C.2.1 hd ht (fun h => kt h H locs ls hP hS hl) (fun h => kf h H locs ls hP hS hl)
theorem tv_if_gt {x : Int32} {t : Nat} (C : tvC E own cc nL ret d mc ms tb) (hd : tvJ cc pc (.ifCond .gt) t pc') (kt : 0 < x → tv_W E P k sl M t L st) (kf : ¬ 0 < x → tv_W E P k sl M pc' L st) : tv_W E P k sl M pc L (.int x :: st) := by
  obtain ⟨off, hd, ht, rfl⟩ := hd
  exact fun H locs ls hP hS hl => lv_if_gt C.1 C.2.1 hd ht (fun h => kt h H locs ls hP hS hl) (fun h => kf h H locs ls hP hS hl)
theorem tv_if_le {x : Int32} {t : Nat} (C : tvC E own cc nL ret d mc ms tb) (hd : tvJ cc pc (.ifCond .le) t pc') (kt : x ≤ 0 → tv_W E P k sl M t L st) (kf : ¬ x ≤ 0 → tv_W E P k sl M pc' L st) : tv_W E P k sl M pc L (.int x :: st) := by
  obtain ⟨off, hd, ht, rfl⟩ := hd
  exact fun H locs ls hP hS hl => lv_if_le C.1 C.2.1 hd ht (fun h => kt h H locs ls hP hS hl) (fun h => kf h H locs ls hP hS hl)
theorem tv_ifnull {x : Nat} {t : Nat} (C : tvC E own cc nL ret d mc ms tb) (hd : tvJ cc pc .ifnull t pc') (kf : tv_W E P k sl M pc' L st) : tv_W E P k sl M pc L (.ref x :: st) := by
  obtain ⟨off, hd, ht, rfl⟩ := hd
  exact fun H locs ls hP hS hl => lv_ifnull C.1 C.2.1 hd (kf H locs ls hP hS hl)
theorem tv_istore_n {j : Fin 4} {x : Int32} {L' : List (Option Value)} (C : tvC E own cc nL ret d mc ms tb) (hd : tvD cc pc (.istore_n j) 1 pc') (hL : L.set (j : Nat) (some (.int x)) = L') (hn : (j : Nat) < nL := by decide) (hlt : (j : Nat) < L.length := by exact Nat.le_of_ble_eq_true rfl) (hno : tvNo2 L (j : Nat) = true := by exact rfl) (kk : tv_W E P k sl M pc' L' st) : tv_W E P k sl M pc L (.int x :: st) := by
  obtain ⟨hd, rfl⟩ := hd
  subst hL
  exact fun H locs ls hP hS hl => lv_istore_n C.1 C.2.1 hd rfl hl (by rw [C.2.2.1]; exact hn) rfl (fun ls' h' => kk H locs ls' hP hS (tvLok.st1 hlt hno h'))
theorem tv_istore {j : Nat} {x : Int32} {L' : List (Option Value)} (C : tvC E own cc nL ret d mc ms tb) (hd : tvD cc pc (.istore j) 2 pc') (hL : L.set j (some (.int x)) = L') (hn : j < nL := by decide) (hlt : j < L.length := by exact Nat.le_of_ble_eq_true rfl) (hno : tvNo2 L j = true := by exact rfl) (kk : tv_W E P k sl M pc' L' st) : tv_W E P k sl M pc L (.int x :: st) := by
  obtain ⟨hd, rfl⟩ := hd
  subst hL
  exact fun H locs ls hP hS hl => lv_istore C.1 C.2.1 hd hl (by rw [C.2.2.1]; exact hn) rfl (fun ls' h' => kk H locs ls' hP hS (tvLok.st1 hlt hno h'))
theorem tv_astore_n {j : Fin 4} {x : Nat} {L' : List (Option Value)} (C : tvC E own cc nL ret d mc ms tb) (hd : tvD cc pc (.astore_n j) 1 pc') (hL : L.set (j : Nat) (some (.ref x)) = L') (hn : (j : Nat) < nL := by decide) (hlt : (j : Nat) < L.length := by exact Nat.le_of_ble_eq_true rfl) (hno : tvNo2 L (j : Nat) = true := by exact rfl) (kk : tv_W E P k sl M pc' L' st) : tv_W E P k sl M pc L (.ref x :: st) := by
  obtain ⟨hd, rfl⟩ := hd
  subst hL
  exact fun H locs ls hP hS hl => lv_astore_n C.1 C.2.1 hd rfl hl (by rw [C.2.2.1]; exact hn) rfl (fun ls' h' => kk H locs ls' hP hS (tvLok.st1 hlt hno h'))
theorem tv_astore {j : Nat} {x : Nat} {L' : List (Option Value)} (C : tvC E own cc nL ret d mc ms tb) (hd : tvD cc pc (.astore j) 2 pc') (hL : L.set j (some (.ref x)) = L') (hn : j < nL := by decide) (hlt : j < L.length := by exact Nat.le_of_ble_eq_true rfl) (hno : tvNo2 L j = true := by exact rfl) (kk : tv_W E P k sl M pc' L' st) : tv_W E P k sl M pc L (.ref x :: st) := by
  obtain ⟨hd, rfl⟩ := hd
  subst hL
  exact fun H locs ls hP hS hl => lv_astore C.1 C.2.1 hd hl (by rw [C.2.2.1]; exact hn) rfl (fun ls' h' => kk H locs ls' hP hS (tvLok.st1 hlt hno h'))
theorem tv_fstore_n {j : Fin 4} {x : UInt32} {L' : List (Option Value)} (C : tvC E own cc nL ret d mc ms tb) (hd : tvD cc pc (.fstore_n j) 1 pc') (hL : L.set (j : Nat) (some (.float x)) = L') (hn : (j : Nat) < nL := by decide) (hlt : (j : Nat) < L.length := by exact Nat.le_of_ble_eq_true rfl) (hno : tvNo2 L (j : Nat) = true := by exact rfl) (kk : tv_W E P k sl M pc' L' st) : tv_W E P k sl M pc L (.float x :: st) := by
  obtain ⟨hd, rfl⟩ := hd
  subst hL
  exact fun H locs ls hP hS hl => lv_fstore_n C.1 C.2.1 hd rfl hl (by rw [C.2.2.1]; exact hn) rfl (fun ls' h' => kk H locs ls' hP hS (tvLok.st1 hlt hno h'))
theorem tv_fstore {j : Nat} {x : UInt32} {L' : List (Option Value)} (C : tvC E own cc nL ret d mc ms tb) (hd : tvD cc pc (.fstore j) 2 pc') (hL : L.set j (some (.float x)) = L') (hn : j < nL := by decide) (hlt : j < L.length := by exact Nat.le_of_ble_eq_true rfl) (hno : tvNo2 L j = true := by exact rfl) (kk : tv_W E P k sl M pc' L' st) : tv_W E P k sl M pc L (.float x :: st) := by
  obtain ⟨hd, rfl⟩ := hd
  subst hL
  exact fun H locs ls hP hS hl => lv_fstore C.1 C.2.1 hd hl (by rw [C.2.2.1]; exact hn) rfl (fun ls' h' => kk H locs ls' hP hS (tvLok.st1 hlt hno h'))
theorem tv_lstore_n {j : Fin 4} {x : Int64} {L' : List (Option Value)} (C : tvC E own cc nL ret d mc ms tb) (hd : tvD cc pc (.lstore_n j) 1 pc') (hL : (L.set (j : Nat) (some (.long x))).set ((j : Nat) + 1) none = L') (hn : (j : Nat) + 1 < nL := by decide) (hlt : (j : Nat) + 1 < L.length := by exact Nat.le_of_ble_eq_true rfl) (hno : tvNo2 L (j : Nat) = true := by exact rfl) (kk : tv_W E P k sl M pc' L' st) : tv_W E P k sl M pc L (.long x :: st) := by
  obtain ⟨hd, rfl⟩ := hd
  subst hL
  exact fun H locs ls hP hS hl => lv_lstore_n C.1 C.2.1 hd rfl hl (by rw [C.2.2.1]; exact hn) rfl (fun ls' h' => kk H locs ls' hP hS (tvLok.st2 hlt hno h'))
theorem tv_lstore {j : Nat} {x : Int64} {L' : List (Option Value)} (C : tvC E own cc nL ret d mc ms tb) (hd : tvD cc pc (.lstore j) 2 pc') (hL : (L.set j (some (.long x))).set (j + 1) none = L') (hn : j + 1 < nL := by decide) (hlt : j + 1 < L.length := by exact Nat.le_of_ble_eq_true rfl) (hno : tvNo2 L j = true := by exact rfl) (kk : tv_W E P k sl M pc' L' st) : tv_W E P k sl M pc L (.long x :: st) := by
  obtain ⟨hd, rfl⟩ := hd
  subst hL
  exact fun H locs ls hP hS hl => lv_lstore C.1 C.2.1 hd hl (by rw [C.2.2.1]; exact hn) rfl (fun ls' h' => kk H locs ls' hP hS (tvLok.st2 hlt hno h'))
theorem tv_dstore {j : Nat} {x : UInt64} {L' : List (Option Value)} (C : tvC E own cc nL ret d mc ms tb) (hd : tvD cc pc (.dstore j) 2 pc') (hL : (L.set j (some (.double x))).set (j + 1) none = L') (hn : j + 1 < nL := by decide) (hlt : j + 1 < L.length := by exact Nat.le_of_ble_eq_true rfl) (hno : tvNo2 L j = true := by exact rfl) (kk : tv_W E P k sl M pc' L' st) : tv_W E P k sl M pc L (.double x :: st) := by
  obtain ⟨hd, rfl⟩ := hd
  subst hL
  exact fun H locs ls hP hS hl => lv_dstore C.1 C.2.1 hd hl (by rw [C.2.2.1]; exact hn) rfl (fun ls' h' => kk H locs ls' hP hS (tvLok.st2 hlt hno h'))
theorem tv_iinc {j : Nat} {n : Int} {x v : Int32} {L' : List (Option Value)} (C : tvC E own cc nL ret d mc ms tb) (hd : tvD cc pc (.iinc j n) 3 pc') (hx : L[j]? = some (some (.int x))) (hv : x + Int32.ofInt n = v) (hL : L.set j (some (.int v)) = L') (hn : j < nL := by decide) (hlt : j < L.length := by exact Nat.le_of_ble_eq_true rfl) (hno : tvNo2 L j = true := by exact rfl) (kk : tv_W E P k sl M pc' L' st) : tv_W E P k sl M pc L st := by
  obtain ⟨hd, rfl⟩ := hd
  subst hL
  intro H locs ls hP hS hl
  obtain ⟨i, hi⟩ := List.getElem?_of_mem ((tvEl_mem L 0).mpr ⟨j, by simp, hx⟩ : (j, Value.int x) ∈ tvEl 0 L)
  exact lv_iinc C.1 C.2.1 hd hl hi hv (by rw [C.2.2.1]; exact hn) rfl (fun ls' h' => kk H locs ls' hP hS (tvLok.st1 hlt hno h'))
end TVR
