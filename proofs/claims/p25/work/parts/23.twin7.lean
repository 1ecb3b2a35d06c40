/-! the twin's questions -/
section TWIN7
variable {E : ET} {hi X : HI} {hr : HR} {f p b s : Int → Int}
end TWIN7
