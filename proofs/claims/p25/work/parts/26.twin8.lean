/-! the twin's texts -/
section TWIN8
variable {E : ET} {hi X : HI} {hr : HR} {f p b s G : Int → Int} {a d t m : Int}
end TWIN8
