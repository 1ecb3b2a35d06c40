/-! the class: when all would be done -/
section CLSG
variable {E : ET} {hi : HI} {hr : HR} {o : Nat} {t : TS} {s : Int → Int}
end CLSG
