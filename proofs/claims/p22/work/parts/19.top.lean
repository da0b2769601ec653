section TOP
variable {p : Program} {l : Launch} {e : Env} {R : Room} {s : State} {m : MethodId} {args : Array Value} {below : List Frame} {meth : Method} {c : Code} {Q : State → Prop}
variable {D : va_G} {A : Nat → Prop} {nL : Nat} {ws : va_W} {pc : Nat} {lv : List (Option Value)} {st : List Value}
theorem h_top {z z' : Int} (h : z = z') (kk : GG p l e R s m args below meth c Q D A nL ws pc lv (.int (iI z') :: st)) : GG p l e R s m args below meth c Q D A nL ws pc lv (.int (iI z) :: st) := h ▸ kk
theorem h_topJ {z z' : Int} (h : z = z') (kk : GG p l e R s m args below meth c Q D A nL ws pc lv (.long (lI z') :: st)) : GG p l e R s m args below meth c Q D A nL ws pc lv (.long (lI z) :: st) := h ▸ kk
end TOP
