/-! the twin's acts: ticks and power -/
section TWIN3
variable {E : ET} {hi : HI} {hr : HR} {s : Int → Int}
end TWIN3
