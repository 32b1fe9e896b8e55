theorem iEn_n : iEn [] = [] := rfl
theorem iEn_i {x : Int32} {r : List Value} : iEn (.int x :: r) = some (.int x) :: iEn r := rfl
theorem iEn_r {x : Nat} {r : List Value} : iEn (.ref x :: r) = some (.ref x) :: iEn r := rfl
theorem iEn_u {r : List Value} : iEn (.null :: r) = some .null :: iEn r := rfl
theorem iEn_l {x : Int64} {r : List Value} : iEn (.long x :: r) = some (.long x) :: none :: iEn r := rfl
theorem iEnt_e {n : Nat} {av : List Value} : iEnt n av = iEn av ++ List.replicate (n - (iEn av).length) none := rfl
