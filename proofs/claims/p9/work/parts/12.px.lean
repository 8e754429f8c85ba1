/-! WHAT THE CLASS THROWS: its texts, the words of the two exceptions that no list of words carries, Throwable's two statics. -/
def px_IAE : String := "java/lang/IllegalArgumentException"
def px_ISE : String := "java/lang/IllegalStateException"
def px_strs : List (Nat × String) := [(106, "the tape would be too long"), (117, "the tape has not so many bytes"), (143, "no such what"), (210, "no such word"), (216, "no such cell"), (240, "no such fun"), (298, "the collection is full"), (360, "no such tongue"), (362, "no such kind"), (364, "no such place")]
def px_X (sa : Nat → Nat) (A : Nat → Prop) (U : State) (H : Heap) : Prop :=
  (∀ x ∈ px_strs, vk_R RX12 x.1 x.2 (sa x.1) U) ∧
  (va_Nw (.castable "java/lang/IllegalArgumentException" "java/lang/IllegalArgumentException") U ∧ va_Nw (.castable "java/lang/IllegalStateException" "java/lang/IllegalStateException") U ∧
    va_Nw (.declares ⟨"java/lang/RuntimeException", "<init>", "(Ljava/lang/String;)V"⟩) U ∧ va_Nw (.declares ⟨"java/lang/Exception", "<init>", "(Ljava/lang/String;)V"⟩) U ∧ va_Nw (.declares ⟨"java/lang/Throwable", "<init>", "(Ljava/lang/String;)V"⟩) U) ∧
  vx_Zq Bundle.tN "UNASSIGNED_STACK" Bundle.steD A U H ∧ vx_Zq Bundle.tN "SUPPRESSED_SENTINEL" Bundle.listD A U H
theorem px_X.to {sa : Nat → Nat} {A A' : Nat → Prop} {s U : State} {H H1 : Heap} (hW : s.WarmedH U.vm) (hk : ∀ q : Nat, q < H.size → ¬ A q → H1[q]? = H[q]?) (hA : ∀ q, A' q → A q) (h : px_X sa A s H) : px_X sa A' U H1 :=
  ⟨fun x hx => (h.1 x hx).warm hW, ⟨va_Nw.warmC hW h.2.1.1, va_Nw.warmC hW h.2.1.2.1, va_Nw.warmD hW h.2.1.2.2.1, va_Nw.warmD hW h.2.1.2.2.2.1, va_Nw.warmD hW h.2.1.2.2.2.2⟩,
    ((h.2.2.1.moved hW.alike).kept hk).narrow hA, ((h.2.2.2.moved hW.alike).kept hk).narrow hA⟩
theorem px_X.same {sa : Nat → Nat} {A : Nat → Prop} {s U : State} {H : Heap} (hv : s.vm = U.vm) (h : px_X sa A s H) : px_X sa A U H := by
  have ha : s.vm.Alike U.vm := by rw [← hv]; exact Vm.Alike.refl s.vm
  exact ⟨fun x hx => (h.1 x hx).same hv.symm, ⟨va_Nw.same rfl hv h.2.1.1, va_Nw.same rfl hv h.2.1.2.1, va_Nw.same rfl hv h.2.1.2.2.1, va_Nw.same rfl hv h.2.1.2.2.2.1, va_Nw.same rfl hv h.2.1.2.2.2.2⟩, h.2.2.1.moved ha, h.2.2.2.moved ha⟩
/-- the words of the throw of an IllegalArgumentException -/
def px_atI : List Cond := vx_atS RX12 119 "java/lang/IllegalArgumentException" ["java/lang/RuntimeException", "java/lang/Exception"]
theorem px_badI : ∀ w ∈ px_atI.filter (fun w => !goodWord w), w ∈ [Cond.castable "java/lang/IllegalArgumentException" "java/lang/IllegalArgumentException", .declares ⟨"java/lang/RuntimeException", "<init>", "(Ljava/lang/String;)V"⟩, .declares ⟨"java/lang/Exception", "<init>", "(Ljava/lang/String;)V"⟩, .declares ⟨"java/lang/Throwable", "<init>", "(Ljava/lang/String;)V"⟩] := by decide +kernel
theorem px_goodI : ∀ w ∈ Cond.classLink RX12 115 "java/lang/IllegalArgumentException" :: Cond.initialized "java/lang/IllegalArgumentException" :: px_atI, vx_ot w = true := by decide +kernel
theorem px_fitI : Bundle.fit "java/lang/IllegalArgumentException" = true := by decide +kernel
theorem px_fitN : ∀ n ∈ ["java/lang/RuntimeException", "java/lang/Exception"], Bundle.fit n = true := by decide +kernel
section PX
variable {p : Program} {l : Launch} {e : Env} {R : Room} {s : State} {m : MethodId} {args : Array Value} {below : List Frame} {meth : Method} {c : Code} {H : Heap} {locs : List Loc} {cells slots : Nat} {Q : State → Prop}
variable {D : va_G} {cy : Nat → ClassId} {sa : Nat → Nat} {sz : Nat} {L as : List Nat} {f f0 : Nat → va_E} {Qc : Array Value → State → Outcome → State → Prop} {XC : String → State → State → Prop} {PX : String → List (Nat × va_E) → Prop} {ls : Array Slot} {rest : List Value} {Ts : List Cond} {cs cs0 cs2 : List (Nat × va_E)} {cc : ByteArray} {pc : Nat} {A : Nat → Prop}
theorem px_hat (hts : ∀ w ∈ Ts, w.before args s = true) (hat : ∀ w ∈ px_atI.filter goodWord, w ∈ Ts) {A : Nat → Prop} (hX : px_X sa A s s.heap) : ∀ w ∈ px_atI, w.before args s = true :=
  vx_hat (fun w hw => hts w (hat w hw)) px_badI (vx_c (va_Nw.use rfl hX.2.1.1) (vx_c (va_Nw.use rfl hX.2.1.2.2.1) (vx_c (va_Nw.use rfl hX.2.1.2.2.2.1) (vx_c (va_Nw.use rfl hX.2.1.2.2.2.2) vx_n))))
theorem pq_sub (hw : pw_W D A s.heap L f H locs) : ∀ q, pw_A L f H.size q → A q := fun q h => by
  rcases h with ⟨k, e1, h⟩ | h
  · exact hw.2.1.2 k _ h
  · exact hw.2.2.2 q (Nat.le_trans hw.2.2.1.1 h)
end PX
