/-! the constructors' run -/
def in_M0 : gc_M := (0, 0, fun _ => .inl (0, []))
def in_M1 : gc_M := match gc_new 11 [.null, .null, .null, .null, .null, .null, .null, .null, .null, .int 0, .null, .int 0, .null, .int 0, .null, .null, .null] 0 [none, none, none, none] [] in_M0 with
  | some (_, _, _, M) => M
  | none => in_M0
theorem in_t1 : (gc_run (gc_P 0 (fun _ => 0)) gc_nl 2000 40 65 0 [some (.ref 0), none, none] [] in_M1).isSome = true := by decide +kernel
