/-! the twin's acts: blocks, requests -/
section TWIN5
variable {E : ET} {hi : HI} {hr : HR} {s : Int → Int}
theorem MI.on {s : Int → Int} (hM : MI s) : MI (up1 s 1 0) := hM.up ⟨fun _ => ⟨by omega, by unfold BIG; omega⟩, fun e => by omega, fun e => by omega, fun e => by omega, fun e => by omega, fun _ => Or.inl rfl, fun e => by omega, fun e => by omega, fun e => by omega, fun e => by omega, fun e1 e2 => by omega, fun e => by omega, fun e => by omega⟩
end TWIN5
