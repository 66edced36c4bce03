
def ISE : String := "java/lang/IllegalStateException"
def IOB : String := "java/lang/IndexOutOfBoundsException"
def IAE : String := "java/lang/IllegalArgumentException"
def pfv (j : Nat) : Value := .int (match j with | 0 => 0 | 1 => 0 | 2 => 1 | 3 => 2 | 4 => 2 | 5 => 3 | 6 => 2 | 7 => 2 | 8 => 2 | 9 => 1 | 10 => 1 | _ => 2)
/-- what every call may count on: the statics that nobody writes, and what the tables say of classes -/
def gx (tp te : Nat) (A : Nat → Prop) (U : State) (H : Heap) : Prop :=
  va_Z "Selfkindle$Term" "PARTS_OF" "[I" (.ref tp) A U H ∧ va_T .int tp 12 pfv A U H ∧ va_Z "java/util/ArrayList" "DEFAULTCAPACITY_EMPTY_ELEMENTDATA" "[Ljava/lang/Object;" (.ref te) A U H ∧ va_T (.object "java/lang/Object") te 0 (fun _ => .null) A U H ∧ vx_Zq Bundle.tN "UNASSIGNED_STACK" Bundle.steD A U H ∧ vx_Zq Bundle.tN "SUPPRESSED_SENTINEL" Bundle.listD A U H ∧
  va_Nw (.castable "java/lang/IllegalStateException" "java/lang/IllegalStateException") U ∧ va_Nw (.castable "java/lang/IndexOutOfBoundsException" "java/lang/IndexOutOfBoundsException") U ∧ va_Nw (.castable "java/lang/IllegalArgumentException" "java/lang/IllegalArgumentException") U ∧ va_Nw (.castable "SelfkindleModel$Term" "java/lang/Object") U ∧ va_Nc "java/lang/IllegalStateException" "java/lang/IndexOutOfBoundsException" U ∧ va_Nc "java/lang/IllegalStateException" "java/lang/IllegalArgumentException" U ∧ va_AO "SelfkindleModel$Term" U ∧ va_AO "java/lang/Object" U ∧ va_Nw (.declares (Bundle.init0 "java/lang/RuntimeException")) U ∧ va_Nw (.declares (Bundle.init0 "java/lang/Exception")) U ∧ va_Nw (.declares (Bundle.init0 "java/lang/Throwable")) U
theorem gx.blind {tp te : Nat} {A : Nat → Prop} {U : State} (g : JFrame) (mk : MethodId) (a : Array Value) (h : gx tp te A U U.heap) : gx tp te A (U.calling g mk a) (U.calling g mk a).heap := by
  obtain ⟨h1, h2, h3, h4, h5, h6, h7, h8, h9, h10, h11, h12, h13, h14, h15, h16, h17⟩ := h
  have r : U.vm.Alike (U.calling g mk a).vm := Vm.Alike.refl U.vm
  exact ⟨h1.moved r, h2.moved r, h3.moved r, h4.moved r, h5.moved r, h6.moved r, va_Nw.same rfl rfl h7, va_Nw.same rfl rfl h8, va_Nw.same rfl rfl h9, va_Nw.same rfl rfl h10, h11.moved r, h12.moved r, h13.moved r, h14.moved r, va_Nw.same rfl rfl h15, va_Nw.same rfl rfl h16, va_Nw.same rfl rfl h17⟩
theorem gx.go {tp te : Nat} {A B : Nat → Prop} {s U : State} {H : Heap} {locs : List Loc} (h : gx tp te A s s.heap) (hS : va_S A s.heap H locs) (hB : ∀ q, B q → A q) (hU : U.heap = H) (hW : s.WarmedH U.vm) : gx tp te B U U.heap := by
  obtain ⟨h1, h2, h3, h4, h5, h6, h7, h8, h9, h10, h11, h12, h13, h14, h15, h16, h17⟩ := h
  have r : s.vm.Alike U.vm := hW.alike
  rw [hU]
  exact ⟨((h1.kept hS.2.1).narrow hB).moved r, ((h2.kept hS.2.1).narrow hB).moved r, ((h3.kept hS.2.1).narrow hB).moved r, ((h4.kept hS.2.1).narrow hB).moved r, ((h5.kept hS.2.1).narrow hB).moved r, ((h6.kept hS.2.1).narrow hB).moved r, va_Nw.warmC hW h7, va_Nw.warmC hW h8, va_Nw.warmC hW h9, va_Nw.warmC hW h10, h11.moved r, h12.moved r, h13.moved r, h14.moved r, va_Nw.warmD hW h15, va_Nw.warmD hW h16, va_Nw.warmD hW h17⟩
/-- a method's start: its world, apart, and what every call may count on -/
def Pw (dC : Nat → ClassId) (dI : Nat → Nat → Nat) (WS : va_W) (TYS : List (ClassId × FieldType)) (sz tp te : Nat) (U : State) : Prop :=
  U.heap.size = sz ∧ va_P (dC, dI) vwCl WS U.heap ∧ va_K (dC, dI) vwCl TYS U ∧ va_D (fun _ => True) WS ∧ gx tp te (va_A WS sz) U U.heap
theorem Pw.blind {av : List Value} {dC : Nat → ClassId} {dI : Nat → Nat → Nat} {WS : va_W} {TYS : List (ClassId × FieldType)} {sz tp te : Nat} : FrameBlind (va_Pc av (Pw dC dI WS TYS sz tp te)) :=
  fun a U g mk q => by
    obtain ⟨q0, q1, qP, qK, qD, qG⟩ := q
    exact ⟨q0, q1, qP, va_K.moved (u := U) (U := U.calling g mk a) (Vm.Alike.refl U.vm) qK, qD, qG.blind g mk a⟩
theorem Pw.mk {av : List Value} {dC : Nat → ClassId} {dI : Nat → Nat → Nat} {WS : va_W} {TYS : List (ClassId × FieldType)} {tp te : Nat} {A : Nat → Prop} {s : State} {H : Heap} {locs : List Loc} (hP : va_P (dC, dI) vwCl WS H) (hK : va_K (dC, dI) vwCl TYS s) (hD : va_D A WS) (hG : gx tp te A s s.heap) (hS : va_S A s.heap H locs) (hF : ∀ q, va_A WS H.size q → A q) :
    ∀ U : State, U.heap = H → s.WarmedH U.vm → va_Pc av (Pw dC dI WS TYS H.size tp te) av.toArray U :=
  fun U hU hW => ⟨rfl, by rw [hU], by rw [hU]; exact hP, va_K.moved hW.alike hK, hD.weaken (fun _ _ _ _ => trivial), hG.go hS hF hU hW⟩
/-- a method's end: its world -/
def Bw (dC : Nat → ClassId) (dI : Nat → Nat → Nat) (WS : va_W) (TYS : List (ClassId × FieldType)) (A : Nat → Prop) (t : State) : Prop :=
  va_P (dC, dI) vwCl WS t.heap ∧ va_K (dC, dI) vwCl TYS t ∧ va_D A WS
theorem va_P.nil {D : va_G} {cl : List vw_C} {H : Heap} : va_P D cl [] H := fun k q h => by simp at h
theorem va_D.nil {A : Nat → Prop} : va_D A [] := ⟨fun i j p q h => by simp at h, fun k q h => by simp at h⟩
