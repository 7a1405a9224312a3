/-! A PURE INTERPRETER of the bytecode subset that the class, the reference and the law use.
Cells: an int array (0, l), a boolean array (1, l), an object (class number, fields). References are places in the list of cells;
the first db_n places are the static tables and the script: read only. -/
abbrev db_C : Type := (Nat × List Int32) ⊕ (Nat × List Value)
abbrev db_H : Type := List db_C
abbrev db_I : Type := Instr × Nat × List Nat
abbrev db_S : Type := Nat × List Value × List Value × db_H
abbrev db_R : Type := db_S ⊕ ((Nat × List Value × List Value × Nat) ⊕ Option Value)
def db_n : Nat := 5
