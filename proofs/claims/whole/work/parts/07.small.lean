/-! the array kinds that the worlds hold, and small steps -/
abbrev tyL (cy : Nat → ClassId) : List (ClassId × FieldType) := [(cy 0, .byte), (cy 1, .int), (cy 2, .boolean), (cy 3, .long), (cy 4, .object "TrainedSegments$Dictionary"), (cy 5, .object "TrainedSegments$Row")]
section GT
variable {p : Program} {l : Launch} {e : Env} {R : Room} {s : State} {m : MethodId} {args : Array Value} {below : List Frame} {meth : Method} {c : Code} {Q : State → Prop} {nL : Nat} {D : va_G} {A : Nat → Prop} {ws : va_W} {cells slots pc : Nat} {lv : List (Nat × Value)} {st : List Value}
theorem go_topi {x : Int32} (k : ∀ y : Int32, y = x → Go p l e R s m args below meth c Q nL D A ws cells slots pc lv (.int y :: st)) : Go p l e R s m args below meth c Q nL D A ws cells slots pc lv (.int x :: st) := k x rfl
theorem go_topl {x : Int64} (k : ∀ y : Int64, y = x → Go p l e R s m args below meth c Q nL D A ws cells slots pc lv (.long y :: st)) : Go p l e R s m args below meth c Q nL D A ws cells slots pc lv (.long x :: st) := k x rfl
theorem go_top {x y : Value} (h : x = y) (k : Go p l e R s m args below meth c Q nL D A ws cells slots pc lv (y :: st)) : Go p l e R s m args below meth c Q nL D A ws cells slots pc lv (x :: st) := h ▸ k
end GT
