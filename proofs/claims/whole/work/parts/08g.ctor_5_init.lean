set_option maxRecDepth 100000 in
set_option maxHeartbeats 4000000 in
def m5_init (ms N : Nat) (K : Nat → Nat × Nat) (F : Nat → Nat → Option Nat) (I : (Nat → Nat → Int32)) (J : (Nat → Nat → Int64)) (a0 : Nat) : Option (Nat × (Nat → Nat × Nat) × (Nat → Nat → Option Nat) × (Nat → Nat → Int32) × (Nat → Nat → Int64)) :=
  if ¬ (12 : Int32) < 0 then (if (12 : Int32).toNatClampNeg * componentBytes (newarray.typeOf .int) ≤ 536870912 then (if 0 + (12 : Int32).toNatClampNeg ≤ ms then (xlet (N + 1) fun N4 => xlet (va_up K N (1, (12 : Int32).toNatClampNeg)) fun K5 => xlet (va_up I N (fun _ => 0)) fun I6 => xlet (va_up J N (fun _ => 0)) fun J7 => xlet (va_up F N (fun _ => none)) fun F8 => if a0 < N4 ∧ K5 a0 = (0, 5) then (xlet (xu F8 a0 1 (some N)) fun F10 => if 0 + (12 : Int32).toNatClampNeg + (12 : Int32).toNatClampNeg ≤ ms then (xlet (N4 + 1) fun N12 => xlet (va_up K5 N4 (1, (12 : Int32).toNatClampNeg)) fun K13 => xlet (va_up I6 N4 (fun _ => 0)) fun I14 => xlet (va_up J7 N4 (fun _ => 0)) fun J15 => xlet (va_up F10 N4 (fun _ => none)) fun F16 => if a0 < N12 ∧ K13 a0 = (0, 5) then (xlet (xu F16 a0 2 (some N4)) fun F18 => if 0 + (12 : Int32).toNatClampNeg + (12 : Int32).toNatClampNeg + (12 : Int32).toNatClampNeg ≤ ms then (xlet (N12 + 1) fun N20 => xlet (va_up K13 N12 (1, (12 : Int32).toNatClampNeg)) fun K21 => xlet (va_up I14 N12 (fun _ => 0)) fun I22 => xlet (va_up J15 N12 (fun _ => 0)) fun J23 => xlet (va_up F18 N12 (fun _ => none)) fun F24 => if a0 < N20 ∧ K21 a0 = (0, 5) then (xlet (xu F24 a0 3 (some N12)) fun F26 => if (12 : Int32).toNatClampNeg * componentBytes (newarray.typeOf .long) ≤ 536870912 then (if 0 + (12 : Int32).toNatClampNeg + (12 : Int32).toNatClampNeg + (12 : Int32).toNatClampNeg + (12 : Int32).toNatClampNeg ≤ ms then (xlet (N20 + 1) fun N29 => xlet (va_up K21 N20 (2, (12 : Int32).toNatClampNeg)) fun K30 => xlet (va_up I22 N20 (fun _ => 0)) fun I31 => xlet (va_up J23 N20 (fun _ => 0)) fun J32 => xlet (va_up F26 N20 (fun _ => none)) fun F33 => if a0 < N29 ∧ K30 a0 = (0, 5) then (xlet (xu F33 a0 4 (some N20)) fun F35 => if 0 + (12 : Int32).toNatClampNeg + (12 : Int32).toNatClampNeg + (12 : Int32).toNatClampNeg + (12 : Int32).toNatClampNeg + (12 : Int32).toNatClampNeg ≤ ms then (xlet (N29 + 1) fun N37 => xlet (va_up K30 N29 (2, (12 : Int32).toNatClampNeg)) fun K38 => xlet (va_up I31 N29 (fun _ => 0)) fun I39 => xlet (va_up J32 N29 (fun _ => 0)) fun J40 => xlet (va_up F35 N29 (fun _ => none)) fun F41 => if a0 < N37 ∧ K38 a0 = (0, 5) then (xlet (xu F41 a0 5 (some N29)) fun F43 => if ¬ (768 : Int32) < 0 then (if (768 : Int32).toNatClampNeg * componentBytes (newarray.typeOf .boolean) ≤ 536870912 then (if 0 + (12 : Int32).toNatClampNeg + (12 : Int32).toNatClampNeg + (12 : Int32).toNatClampNeg + (12 : Int32).toNatClampNeg + (12 : Int32).toNatClampNeg + (768 : Int32).toNatClampNeg ≤ ms then (xlet (N37 + 1) fun N47 => xlet (va_up K38 N37 (3, (768 : Int32).toNatClampNeg)) fun K48 => xlet (va_up I39 N37 (fun _ => 0)) fun I49 => xlet (va_up J40 N37 (fun _ => 0)) fun J50 => xlet (va_up F43 N37 (fun _ => none)) fun F51 => if a0 < N47 ∧ K48 a0 = (0, 5) then (xlet (xu F51 a0 6 (some N37)) fun F53 => if (768 : Int32).toNatClampNeg * componentBytes (newarray.typeOf .long) ≤ 536870912 then (if 0 + (12 : Int32).toNatClampNeg + (12 : Int32).toNatClampNeg + (12 : Int32).toNatClampNeg + (12 : Int32).toNatClampNeg + (12 : Int32).toNatClampNeg + (768 : Int32).toNatClampNeg + (768 : Int32).toNatClampNeg ≤ ms then (xlet (N47 + 1) fun N56 => xlet (va_up K48 N47 (2, (768 : Int32).toNatClampNeg)) fun K57 => xlet (va_up I49 N47 (fun _ => 0)) fun I58 => xlet (va_up J50 N47 (fun _ => 0)) fun J59 => xlet (va_up F53 N47 (fun _ => none)) fun F60 => if a0 < N56 ∧ K57 a0 = (0, 5) then (xlet (xu F60 a0 7 (some N47)) fun F62 => if 0 + (12 : Int32).toNatClampNeg + (12 : Int32).toNatClampNeg + (12 : Int32).toNatClampNeg + (12 : Int32).toNatClampNeg + (12 : Int32).toNatClampNeg + (768 : Int32).toNatClampNeg + (768 : Int32).toNatClampNeg + (768 : Int32).toNatClampNeg ≤ ms then (xlet (N56 + 1) fun N64 => xlet (va_up K57 N56 (3, (768 : Int32).toNatClampNeg)) fun K65 => xlet (va_up I58 N56 (fun _ => 0)) fun I66 => xlet (va_up J59 N56 (fun _ => 0)) fun J67 => xlet (va_up F62 N56 (fun _ => none)) fun F68 => if a0 < N64 ∧ K65 a0 = (0, 5) then (xlet (xu F68 a0 8 (some N56)) fun F70 => if 0 + (12 : Int32).toNatClampNeg + (12 : Int32).toNatClampNeg + (12 : Int32).toNatClampNeg + (12 : Int32).toNatClampNeg + (12 : Int32).toNatClampNeg + (768 : Int32).toNatClampNeg + (768 : Int32).toNatClampNeg + (768 : Int32).toNatClampNeg + (768 : Int32).toNatClampNeg ≤ ms then (xlet (N64 + 1) fun N72 => xlet (va_up K65 N64 (2, (768 : Int32).toNatClampNeg)) fun K73 => xlet (va_up I66 N64 (fun _ => 0)) fun I74 => xlet (va_up J67 N64 (fun _ => 0)) fun J75 => xlet (va_up F70 N64 (fun _ => none)) fun F76 => if a0 < N72 ∧ K73 a0 = (0, 5) then (xlet (xu F76 a0 9 (some N64)) fun F78 => if 0 + (12 : Int32).toNatClampNeg + (12 : Int32).toNatClampNeg + (12 : Int32).toNatClampNeg + (12 : Int32).toNatClampNeg + (12 : Int32).toNatClampNeg + (768 : Int32).toNatClampNeg + (768 : Int32).toNatClampNeg + (768 : Int32).toNatClampNeg + (768 : Int32).toNatClampNeg + (768 : Int32).toNatClampNeg ≤ ms then (xlet (N72 + 1) fun N80 => xlet (va_up K73 N72 (3, (768 : Int32).toNatClampNeg)) fun K81 => xlet (va_up I74 N72 (fun _ => 0)) fun I82 => xlet (va_up J75 N72 (fun _ => 0)) fun J83 => xlet (va_up F78 N72 (fun _ => none)) fun F84 => if a0 < N80 ∧ K81 a0 = (0, 5) then (xlet (xu F84 a0 10 (some N72)) fun F86 => if 0 + (12 : Int32).toNatClampNeg + (12 : Int32).toNatClampNeg + (12 : Int32).toNatClampNeg + (12 : Int32).toNatClampNeg + (12 : Int32).toNatClampNeg + (768 : Int32).toNatClampNeg + (768 : Int32).toNatClampNeg + (768 : Int32).toNatClampNeg + (768 : Int32).toNatClampNeg + (768 : Int32).toNatClampNeg + (768 : Int32).toNatClampNeg ≤ ms then (xlet (N80 + 1) fun N88 => xlet (va_up K81 N80 (2, (768 : Int32).toNatClampNeg)) fun K89 => xlet (va_up I82 N80 (fun _ => 0)) fun I90 => xlet (va_up J83 N80 (fun _ => 0)) fun J91 => xlet (va_up F86 N80 (fun _ => none)) fun F92 => if a0 < N88 ∧ K89 a0 = (0, 5) then (xlet (xu F92 a0 11 (some N80)) fun F94 => if ¬ (2400 : Int32) < 0 then (if (2400 : Int32).toNatClampNeg * componentBytes (newarray.typeOf .int) ≤ 536870912 then (if 0 + (12 : Int32).toNatClampNeg + (12 : Int32).toNatClampNeg + (12 : Int32).toNatClampNeg + (12 : Int32).toNatClampNeg + (12 : Int32).toNatClampNeg + (768 : Int32).toNatClampNeg + (768 : Int32).toNatClampNeg + (768 : Int32).toNatClampNeg + (768 : Int32).toNatClampNeg + (768 : Int32).toNatClampNeg + (768 : Int32).toNatClampNeg + (2400 : Int32).toNatClampNeg ≤ ms then (xlet (N88 + 1) fun N98 => xlet (va_up K89 N88 (1, (2400 : Int32).toNatClampNeg)) fun K99 => xlet (va_up I90 N88 (fun _ => 0)) fun I100 => xlet (va_up J91 N88 (fun _ => 0)) fun J101 => xlet (va_up F94 N88 (fun _ => none)) fun F102 => if a0 < N98 ∧ K99 a0 = (0, 5) then (xlet (xu F102 a0 12 (some N88)) fun F104 => if 0 + (12 : Int32).toNatClampNeg + (12 : Int32).toNatClampNeg + (12 : Int32).toNatClampNeg + (12 : Int32).toNatClampNeg + (12 : Int32).toNatClampNeg + (768 : Int32).toNatClampNeg + (768 : Int32).toNatClampNeg + (768 : Int32).toNatClampNeg + (768 : Int32).toNatClampNeg + (768 : Int32).toNatClampNeg + (768 : Int32).toNatClampNeg + (2400 : Int32).toNatClampNeg + (2400 : Int32).toNatClampNeg ≤ ms then (xlet (N98 + 1) fun N106 => xlet (va_up K99 N98 (1, (2400 : Int32).toNatClampNeg)) fun K107 => xlet (va_up I100 N98 (fun _ => 0)) fun I108 => xlet (va_up J101 N98 (fun _ => 0)) fun J109 => xlet (va_up F104 N98 (fun _ => none)) fun F110 => if a0 < N106 ∧ K107 a0 = (0, 5) then (xlet (xu F110 a0 13 (some N98)) fun F112 => if 0 + (12 : Int32).toNatClampNeg + (12 : Int32).toNatClampNeg + (12 : Int32).toNatClampNeg + (12 : Int32).toNatClampNeg + (12 : Int32).toNatClampNeg + (768 : Int32).toNatClampNeg + (768 : Int32).toNatClampNeg + (768 : Int32).toNatClampNeg + (768 : Int32).toNatClampNeg + (768 : Int32).toNatClampNeg + (768 : Int32).toNatClampNeg + (2400 : Int32).toNatClampNeg + (2400 : Int32).toNatClampNeg + (2400 : Int32).toNatClampNeg ≤ ms then (xlet (N106 + 1) fun N114 => xlet (va_up K107 N106 (1, (2400 : Int32).toNatClampNeg)) fun K115 => xlet (va_up I108 N106 (fun _ => 0)) fun I116 => xlet (va_up J109 N106 (fun _ => 0)) fun J117 => xlet (va_up F112 N106 (fun _ => none)) fun F118 => if a0 < N114 ∧ K115 a0 = (0, 5) then (xlet (xu F118 a0 14 (some N106)) fun F120 => if (2400 : Int32).toNatClampNeg * componentBytes (newarray.typeOf .long) ≤ 536870912 then (if 0 + (12 : Int32).toNatClampNeg + (12 : Int32).toNatClampNeg + (12 : Int32).toNatClampNeg + (12 : Int32).toNatClampNeg + (12 : Int32).toNatClampNeg + (768 : Int32).toNatClampNeg + (768 : Int32).toNatClampNeg + (768 : Int32).toNatClampNeg + (768 : Int32).toNatClampNeg + (768 : Int32).toNatClampNeg + (768 : Int32).toNatClampNeg + (2400 : Int32).toNatClampNeg + (2400 : Int32).toNatClampNeg + (2400 : Int32).toNatClampNeg + (2400 : Int32).toNatClampNeg ≤ ms then (xlet (N114 + 1) fun N123 => xlet (va_up K115 N114 (2, (2400 : Int32).toNatClampNeg)) fun K124 => xlet (va_up I116 N114 (fun _ => 0)) fun I125 => xlet (va_up J117 N114 (fun _ => 0)) fun J126 => xlet (va_up F120 N114 (fun _ => none)) fun F127 => if a0 < N123 ∧ K124 a0 = (0, 5) then (xlet (xu F127 a0 15 (some N114)) fun F129 => if 0 + (12 : Int32).toNatClampNeg + (12 : Int32).toNatClampNeg + (12 : Int32).toNatClampNeg + (12 : Int32).toNatClampNeg + (12 : Int32).toNatClampNeg + (768 : Int32).toNatClampNeg + (768 : Int32).toNatClampNeg + (768 : Int32).toNatClampNeg + (768 : Int32).toNatClampNeg + (768 : Int32).toNatClampNeg + (768 : Int32).toNatClampNeg + (2400 : Int32).toNatClampNeg + (2400 : Int32).toNatClampNeg + (2400 : Int32).toNatClampNeg + (2400 : Int32).toNatClampNeg + (2400 : Int32).toNatClampNeg ≤ ms then (xlet (N123 + 1) fun N131 => xlet (va_up K124 N123 (2, (2400 : Int32).toNatClampNeg)) fun K132 => xlet (va_up I125 N123 (fun _ => 0)) fun I133 => xlet (va_up J126 N123 (fun _ => 0)) fun J134 => xlet (va_up F129 N123 (fun _ => none)) fun F135 => if a0 < N131 ∧ K132 a0 = (0, 5) then (xlet (xu F135 a0 16 (some N123)) fun F137 => if ¬ (40 : Int32) < 0 then (if (40 : Int32).toNatClampNeg * componentBytes (newarray.typeOf .int) ≤ 536870912 then (if 0 + (12 : Int32).toNatClampNeg + (12 : Int32).toNatClampNeg + (12 : Int32).toNatClampNeg + (12 : Int32).toNatClampNeg + (12 : Int32).toNatClampNeg + (768 : Int32).toNatClampNeg + (768 : Int32).toNatClampNeg + (768 : Int32).toNatClampNeg + (768 : Int32).toNatClampNeg + (768 : Int32).toNatClampNeg + (768 : Int32).toNatClampNeg + (2400 : Int32).toNatClampNeg + (2400 : Int32).toNatClampNeg + (2400 : Int32).toNatClampNeg + (2400 : Int32).toNatClampNeg + (2400 : Int32).toNatClampNeg + (40 : Int32).toNatClampNeg ≤ ms then (xlet (N131 + 1) fun N141 => xlet (va_up K132 N131 (1, (40 : Int32).toNatClampNeg)) fun K142 => xlet (va_up I133 N131 (fun _ => 0)) fun I143 => xlet (va_up J134 N131 (fun _ => 0)) fun J144 => xlet (va_up F137 N131 (fun _ => none)) fun F145 => if a0 < N141 ∧ K142 a0 = (0, 5) then (xlet (xu F145 a0 22 (some N131)) fun F147 => if 0 + (12 : Int32).toNatClampNeg + (12 : Int32).toNatClampNeg + (12 : Int32).toNatClampNeg + (12 : Int32).toNatClampNeg + (12 : Int32).toNatClampNeg + (768 : Int32).toNatClampNeg + (768 : Int32).toNatClampNeg + (768 : Int32).toNatClampNeg + (768 : Int32).toNatClampNeg + (768 : Int32).toNatClampNeg + (768 : Int32).toNatClampNeg + (2400 : Int32).toNatClampNeg + (2400 : Int32).toNatClampNeg + (2400 : Int32).toNatClampNeg + (2400 : Int32).toNatClampNeg + (2400 : Int32).toNatClampNeg + (40 : Int32).toNatClampNeg + (40 : Int32).toNatClampNeg ≤ ms then (xlet (N141 + 1) fun N149 => xlet (va_up K142 N141 (1, (40 : Int32).toNatClampNeg)) fun K150 => xlet (va_up I143 N141 (fun _ => 0)) fun I151 => xlet (va_up J144 N141 (fun _ => 0)) fun J152 => xlet (va_up F147 N141 (fun _ => none)) fun F153 => if a0 < N149 ∧ K150 a0 = (0, 5) then (xlet (xu F153 a0 23 (some N141)) fun F155 => if (40 : Int32).toNatClampNeg * componentBytes (newarray.typeOf .boolean) ≤ 536870912 then (if 0 + (12 : Int32).toNatClampNeg + (12 : Int32).toNatClampNeg + (12 : Int32).toNatClampNeg + (12 : Int32).toNatClampNeg + (12 : Int32).toNatClampNeg + (768 : Int32).toNatClampNeg + (768 : Int32).toNatClampNeg + (768 : Int32).toNatClampNeg + (768 : Int32).toNatClampNeg + (768 : Int32).toNatClampNeg + (768 : Int32).toNatClampNeg + (2400 : Int32).toNatClampNeg + (2400 : Int32).toNatClampNeg + (2400 : Int32).toNatClampNeg + (2400 : Int32).toNatClampNeg + (2400 : Int32).toNatClampNeg + (40 : Int32).toNatClampNeg + (40 : Int32).toNatClampNeg + (40 : Int32).toNatClampNeg ≤ ms then (xlet (N149 + 1) fun N158 => xlet (va_up K150 N149 (3, (40 : Int32).toNatClampNeg)) fun K159 => xlet (va_up I151 N149 (fun _ => 0)) fun I160 => xlet (va_up J152 N149 (fun _ => 0)) fun J161 => xlet (va_up F155 N149 (fun _ => none)) fun F162 => if a0 < N158 ∧ K159 a0 = (0, 5) then (xlet (xu F162 a0 24 (some N149)) fun F164 => if (40 : Int32).toNatClampNeg * componentBytes (newarray.typeOf .long) ≤ 536870912 then (if 0 + (12 : Int32).toNatClampNeg + (12 : Int32).toNatClampNeg + (12 : Int32).toNatClampNeg + (12 : Int32).toNatClampNeg + (12 : Int32).toNatClampNeg + (768 : Int32).toNatClampNeg + (768 : Int32).toNatClampNeg + (768 : Int32).toNatClampNeg + (768 : Int32).toNatClampNeg + (768 : Int32).toNatClampNeg + (768 : Int32).toNatClampNeg + (2400 : Int32).toNatClampNeg + (2400 : Int32).toNatClampNeg + (2400 : Int32).toNatClampNeg + (2400 : Int32).toNatClampNeg + (2400 : Int32).toNatClampNeg + (40 : Int32).toNatClampNeg + (40 : Int32).toNatClampNeg + (40 : Int32).toNatClampNeg + (40 : Int32).toNatClampNeg ≤ ms then (xlet (N158 + 1) fun N167 => xlet (va_up K159 N158 (2, (40 : Int32).toNatClampNeg)) fun K168 => xlet (va_up I160 N158 (fun _ => 0)) fun I169 => xlet (va_up J161 N158 (fun _ => 0)) fun J170 => xlet (va_up F164 N158 (fun _ => none)) fun F171 => if a0 < N167 ∧ K168 a0 = (0, 5) then (xlet (xu F171 a0 25 (some N158)) fun F173 => if ¬ (64 : Int32) < 0 then (if (64 : Int32).toNatClampNeg * componentBytes (newarray.typeOf .boolean) ≤ 536870912 then (if 0 + (12 : Int32).toNatClampNeg + (12 : Int32).toNatClampNeg + (12 : Int32).toNatClampNeg + (12 : Int32).toNatClampNeg + (12 : Int32).toNatClampNeg + (768 : Int32).toNatClampNeg + (768 : Int32).toNatClampNeg + (768 : Int32).toNatClampNeg + (768 : Int32).toNatClampNeg + (768 : Int32).toNatClampNeg + (768 : Int32).toNatClampNeg + (2400 : Int32).toNatClampNeg + (2400 : Int32).toNatClampNeg + (2400 : Int32).toNatClampNeg + (2400 : Int32).toNatClampNeg + (2400 : Int32).toNatClampNeg + (40 : Int32).toNatClampNeg + (40 : Int32).toNatClampNeg + (40 : Int32).toNatClampNeg + (40 : Int32).toNatClampNeg + (64 : Int32).toNatClampNeg ≤ ms then (xlet (N167 + 1) fun N177 => xlet (va_up K168 N167 (3, (64 : Int32).toNatClampNeg)) fun K178 => xlet (va_up I169 N167 (fun _ => 0)) fun I179 => xlet (va_up J170 N167 (fun _ => 0)) fun J180 => xlet (va_up F173 N167 (fun _ => none)) fun F181 => if a0 < N177 ∧ K178 a0 = (0, 5) then (xlet (xu F181 a0 26 (some N167)) fun F183 => if (64 : Int32).toNatClampNeg * componentBytes (newarray.typeOf .long) ≤ 536870912 then (if 0 + (12 : Int32).toNatClampNeg + (12 : Int32).toNatClampNeg + (12 : Int32).toNatClampNeg + (12 : Int32).toNatClampNeg + (12 : Int32).toNatClampNeg + (768 : Int32).toNatClampNeg + (768 : Int32).toNatClampNeg + (768 : Int32).toNatClampNeg + (768 : Int32).toNatClampNeg + (768 : Int32).toNatClampNeg + (768 : Int32).toNatClampNeg + (2400 : Int32).toNatClampNeg + (2400 : Int32).toNatClampNeg + (2400 : Int32).toNatClampNeg + (2400 : Int32).toNatClampNeg + (2400 : Int32).toNatClampNeg + (40 : Int32).toNatClampNeg + (40 : Int32).toNatClampNeg + (40 : Int32).toNatClampNeg + (40 : Int32).toNatClampNeg + (64 : Int32).toNatClampNeg + (64 : Int32).toNatClampNeg ≤ ms then (xlet (N177 + 1) fun N186 => xlet (va_up K178 N177 (2, (64 : Int32).toNatClampNeg)) fun K187 => xlet (va_up I179 N177 (fun _ => 0)) fun I188 => xlet (va_up J180 N177 (fun _ => 0)) fun J189 => xlet (va_up F183 N177 (fun _ => none)) fun F190 => if a0 < N186 ∧ K187 a0 = (0, 5) then (xlet (xu F190 a0 27 (some N177)) fun F192 => if 0 + (12 : Int32).toNatClampNeg + (12 : Int32).toNatClampNeg + (12 : Int32).toNatClampNeg + (12 : Int32).toNatClampNeg + (12 : Int32).toNatClampNeg + (768 : Int32).toNatClampNeg + (768 : Int32).toNatClampNeg + (768 : Int32).toNatClampNeg + (768 : Int32).toNatClampNeg + (768 : Int32).toNatClampNeg + (768 : Int32).toNatClampNeg + (2400 : Int32).toNatClampNeg + (2400 : Int32).toNatClampNeg + (2400 : Int32).toNatClampNeg + (2400 : Int32).toNatClampNeg + (2400 : Int32).toNatClampNeg + (40 : Int32).toNatClampNeg + (40 : Int32).toNatClampNeg + (40 : Int32).toNatClampNeg + (40 : Int32).toNatClampNeg + (64 : Int32).toNatClampNeg + (64 : Int32).toNatClampNeg + (64 : Int32).toNatClampNeg ≤ ms then (xlet (N186 + 1) fun N194 => xlet (va_up K187 N186 (3, (64 : Int32).toNatClampNeg)) fun K195 => xlet (va_up I188 N186 (fun _ => 0)) fun I196 => xlet (va_up J189 N186 (fun _ => 0)) fun J197 => xlet (va_up F192 N186 (fun _ => none)) fun F198 => if a0 < N194 ∧ K195 a0 = (0, 5) then (xlet (xu F198 a0 28 (some N186)) fun F200 => if 0 + (12 : Int32).toNatClampNeg + (12 : Int32).toNatClampNeg + (12 : Int32).toNatClampNeg + (12 : Int32).toNatClampNeg + (12 : Int32).toNatClampNeg + (768 : Int32).toNatClampNeg + (768 : Int32).toNatClampNeg + (768 : Int32).toNatClampNeg + (768 : Int32).toNatClampNeg + (768 : Int32).toNatClampNeg + (768 : Int32).toNatClampNeg + (2400 : Int32).toNatClampNeg + (2400 : Int32).toNatClampNeg + (2400 : Int32).toNatClampNeg + (2400 : Int32).toNatClampNeg + (2400 : Int32).toNatClampNeg + (40 : Int32).toNatClampNeg + (40 : Int32).toNatClampNeg + (40 : Int32).toNatClampNeg + (40 : Int32).toNatClampNeg + (64 : Int32).toNatClampNeg + (64 : Int32).toNatClampNeg + (64 : Int32).toNatClampNeg + (64 : Int32).toNatClampNeg ≤ ms then (xlet (N194 + 1) fun N202 => xlet (va_up K195 N194 (2, (64 : Int32).toNatClampNeg)) fun K203 => xlet (va_up I196 N194 (fun _ => 0)) fun I204 => xlet (va_up J197 N194 (fun _ => 0)) fun J205 => xlet (va_up F200 N194 (fun _ => none)) fun F206 => if a0 < N202 ∧ K203 a0 = (0, 5) then (xlet (xu F206 a0 29 (some N194)) fun F208 => xb (m5_begins N202 K203 F208 I204 J205 a0) fun I209 => some (N202, K203, F208, I209, J205)) else none) else none) else none) else none) else none) else none) else none) else none) else none) else none) else none) else none) else none) else none) else none) else none) else none) else none) else none) else none) else none) else none) else none) else none) else none) else none) else none) else none) else none) else none) else none) else none) else none) else none) else none) else none) else none) else none) else none) else none) else none) else none) else none) else none) else none) else none) else none) else none) else none) else none) else none) else none) else none) else none) else none) else none) else none) else none) else none) else none) else none) else none) else none) else none
set_option maxRecDepth 100000 in
set_option maxHeartbeats 4000000 in
theorem c_m5_init {l : Launch} {B d ms : Nat} {g : xG} {N : Nat} {K : Nat → Nat × Nat} {F : Nat → Nat → Option Nat} {I : (Nat → Nat → Int32)} {J : (Nat → Nat → Int64)} {a0 : Nat} {N' : Nat} {K' : (Nat → Nat × Nat)} {F' : (Nat → Nat → Option Nat)} {I' : (Nat → Nat → Int32)} {J' : (Nat → Nat → Int64)} (h : m5_init ms N K F I J a0 = some (N', K', F', I', J')) : xC l g B (d + 1) 24 ms y5_init c5_init 1 none [.ref (B + a0)] (xP g B N K I J F) (xq none (xP g B N' K' I' J' F')) := by
  refine xC_of (by decide) (Nat.le_of_ble_eq_true rfl) (fun X hl hR hr hnm hX => ?_)
  refine x_sub (L' := [(0, .ref (B + a0))]) [0] rfl ?_
  unfold m5_init at h
  refine x_aload_n hX d5_init_0 rfl rfl ?_
  refine x_objInit hX hR kM5_1 kNobj kDobj (Nat.le_of_ble_eq_true rfl) d5_init_1 ?_
  refine x_aload_n hX d5_init_4 rfl rfl ?_
  refine x_bipush (v := 12) hX d5_init_5 (by decide) ?_
  obtain ⟨hg1, h⟩ := x_gd h
  obtain ⟨hg2, h⟩ := x_gd h
  obtain ⟨hg3, h⟩ := x_gd h
  refine x_newI hX kA_int hg1 rfl hg2 (by rw [hR]; exact Nat.le_of_ble_eq_true rfl) (by rw [hR]; exact hg3) d5_init_7 ?_
  obtain ⟨N4, eN4, h⟩ := x_le h
  rw [← eN4]
  obtain ⟨K5, eK5, h⟩ := x_le h
  rw [← eK5]
  obtain ⟨I6, eI6, h⟩ := x_le h
  rw [← eI6]
  obtain ⟨J7, eJ7, h⟩ := x_le h
  rw [← eJ7]
  obtain ⟨F8, eF8, h⟩ := x_le h
  rw [← eF8]
  obtain ⟨hg9, h⟩ := x_gd h
  refine x_putF (j := 1) hX xc5 hg9.1 hg9.2 (by decide) rfl kF5_7 (Or.inr ⟨hnm, rfl, rfl⟩) rfl rfl d5_init_9 ?_
  obtain ⟨F10, eF10, h⟩ := x_le h
  rw [← eF10]
  refine x_aload_n hX d5_init_12 rfl rfl ?_
  refine x_bipush (v := 12) hX d5_init_13 (by decide) ?_
  obtain ⟨hg11, h⟩ := x_gd h
  refine x_newI hX kA_int hg1 rfl hg2 (by rw [hR]; exact Nat.le_of_ble_eq_true rfl) (by rw [hR]; exact hg11) d5_init_15 ?_
  obtain ⟨N12, eN12, h⟩ := x_le h
  rw [← eN12]
  obtain ⟨K13, eK13, h⟩ := x_le h
  rw [← eK13]
  obtain ⟨I14, eI14, h⟩ := x_le h
  rw [← eI14]
  obtain ⟨J15, eJ15, h⟩ := x_le h
  rw [← eJ15]
  obtain ⟨F16, eF16, h⟩ := x_le h
  rw [← eF16]
  obtain ⟨hg17, h⟩ := x_gd h
  refine x_putF (j := 2) hX xc5 hg17.1 hg17.2 (by decide) rfl kF5_13 (Or.inr ⟨hnm, rfl, rfl⟩) rfl rfl d5_init_17 ?_
  obtain ⟨F18, eF18, h⟩ := x_le h
  rw [← eF18]
  refine x_aload_n hX d5_init_20 rfl rfl ?_
  refine x_bipush (v := 12) hX d5_init_21 (by decide) ?_
  obtain ⟨hg19, h⟩ := x_gd h
  refine x_newI hX kA_int hg1 rfl hg2 (by rw [hR]; exact Nat.le_of_ble_eq_true rfl) (by rw [hR]; exact hg19) d5_init_23 ?_
  obtain ⟨N20, eN20, h⟩ := x_le h
  rw [← eN20]
  obtain ⟨K21, eK21, h⟩ := x_le h
  rw [← eK21]
  obtain ⟨I22, eI22, h⟩ := x_le h
  rw [← eI22]
  obtain ⟨J23, eJ23, h⟩ := x_le h
  rw [← eJ23]
  obtain ⟨F24, eF24, h⟩ := x_le h
  rw [← eF24]
  obtain ⟨hg25, h⟩ := x_gd h
  refine x_putF (j := 3) hX xc5 hg25.1 hg25.2 (by decide) rfl kF5_16 (Or.inr ⟨hnm, rfl, rfl⟩) rfl rfl d5_init_25 ?_
  obtain ⟨F26, eF26, h⟩ := x_le h
  rw [← eF26]
  refine x_aload_n hX d5_init_28 rfl rfl ?_
  refine x_bipush (v := 12) hX d5_init_29 (by decide) ?_
  obtain ⟨hg27, h⟩ := x_gd h
  obtain ⟨hg28, h⟩ := x_gd h
  refine x_newJ hX kA_long hg1 rfl hg27 (by rw [hR]; exact Nat.le_of_ble_eq_true rfl) (by rw [hR]; exact hg28) d5_init_31 ?_
  obtain ⟨N29, eN29, h⟩ := x_le h
  rw [← eN29]
  obtain ⟨K30, eK30, h⟩ := x_le h
  rw [← eK30]
  obtain ⟨I31, eI31, h⟩ := x_le h
  rw [← eI31]
  obtain ⟨J32, eJ32, h⟩ := x_le h
  rw [← eJ32]
  obtain ⟨F33, eF33, h⟩ := x_le h
  rw [← eF33]
  obtain ⟨hg34, h⟩ := x_gd h
  refine x_putF (j := 4) hX xc5 hg34.1 hg34.2 (by decide) rfl kF5_19 (Or.inr ⟨hnm, rfl, rfl⟩) rfl rfl d5_init_33 ?_
  obtain ⟨F35, eF35, h⟩ := x_le h
  rw [← eF35]
  refine x_aload_n hX d5_init_36 rfl rfl ?_
  refine x_bipush (v := 12) hX d5_init_37 (by decide) ?_
  obtain ⟨hg36, h⟩ := x_gd h
  refine x_newJ hX kA_long hg1 rfl hg27 (by rw [hR]; exact Nat.le_of_ble_eq_true rfl) (by rw [hR]; exact hg36) d5_init_39 ?_
  obtain ⟨N37, eN37, h⟩ := x_le h
  rw [← eN37]
  obtain ⟨K38, eK38, h⟩ := x_le h
  rw [← eK38]
  obtain ⟨I39, eI39, h⟩ := x_le h
  rw [← eI39]
  obtain ⟨J40, eJ40, h⟩ := x_le h
  rw [← eJ40]
  obtain ⟨F41, eF41, h⟩ := x_le h
  rw [← eF41]
  obtain ⟨hg42, h⟩ := x_gd h
  refine x_putF (j := 5) hX xc5 hg42.1 hg42.2 (by decide) rfl kF5_23 (Or.inr ⟨hnm, rfl, rfl⟩) rfl rfl d5_init_41 ?_
  obtain ⟨F43, eF43, h⟩ := x_le h
  rw [← eF43]
  refine x_aload_n hX d5_init_44 rfl rfl ?_
  refine x_sipush (v := 768) hX d5_init_45 (by decide) ?_
  obtain ⟨hg44, h⟩ := x_gd h
  obtain ⟨hg45, h⟩ := x_gd h
  obtain ⟨hg46, h⟩ := x_gd h
  refine x_newZ hX kA_boolean hg44 rfl hg45 (by rw [hR]; exact Nat.le_of_ble_eq_true rfl) (by rw [hR]; exact hg46) d5_init_48 ?_
  obtain ⟨N47, eN47, h⟩ := x_le h
  rw [← eN47]
  obtain ⟨K48, eK48, h⟩ := x_le h
  rw [← eK48]
  obtain ⟨I49, eI49, h⟩ := x_le h
  rw [← eI49]
  obtain ⟨J50, eJ50, h⟩ := x_le h
  rw [← eJ50]
  obtain ⟨F51, eF51, h⟩ := x_le h
  rw [← eF51]
  obtain ⟨hg52, h⟩ := x_gd h
  refine x_putF (j := 6) hX xc5 hg52.1 hg52.2 (by decide) rfl kF5_26 (Or.inr ⟨hnm, rfl, rfl⟩) rfl rfl d5_init_50 ?_
  obtain ⟨F53, eF53, h⟩ := x_le h
  rw [← eF53]
  refine x_aload_n hX d5_init_53 rfl rfl ?_
  refine x_sipush (v := 768) hX d5_init_54 (by decide) ?_
  obtain ⟨hg54, h⟩ := x_gd h
  obtain ⟨hg55, h⟩ := x_gd h
  refine x_newJ hX kA_long hg44 rfl hg54 (by rw [hR]; exact Nat.le_of_ble_eq_true rfl) (by rw [hR]; exact hg55) d5_init_57 ?_
  obtain ⟨N56, eN56, h⟩ := x_le h
  rw [← eN56]
  obtain ⟨K57, eK57, h⟩ := x_le h
  rw [← eK57]
  obtain ⟨I58, eI58, h⟩ := x_le h
  rw [← eI58]
  obtain ⟨J59, eJ59, h⟩ := x_le h
  rw [← eJ59]
  obtain ⟨F60, eF60, h⟩ := x_le h
  rw [← eF60]
  obtain ⟨hg61, h⟩ := x_gd h
  refine x_putF (j := 7) hX xc5 hg61.1 hg61.2 (by decide) rfl kF5_30 (Or.inr ⟨hnm, rfl, rfl⟩) rfl rfl d5_init_59 ?_
  obtain ⟨F62, eF62, h⟩ := x_le h
  rw [← eF62]
  refine x_aload_n hX d5_init_62 rfl rfl ?_
  refine x_sipush (v := 768) hX d5_init_63 (by decide) ?_
  obtain ⟨hg63, h⟩ := x_gd h
  refine x_newZ hX kA_boolean hg44 rfl hg45 (by rw [hR]; exact Nat.le_of_ble_eq_true rfl) (by rw [hR]; exact hg63) d5_init_66 ?_
  obtain ⟨N64, eN64, h⟩ := x_le h
  rw [← eN64]
  obtain ⟨K65, eK65, h⟩ := x_le h
  rw [← eK65]
  obtain ⟨I66, eI66, h⟩ := x_le h
  rw [← eI66]
  obtain ⟨J67, eJ67, h⟩ := x_le h
  rw [← eJ67]
  obtain ⟨F68, eF68, h⟩ := x_le h
  rw [← eF68]
  obtain ⟨hg69, h⟩ := x_gd h
  refine x_putF (j := 8) hX xc5 hg69.1 hg69.2 (by decide) rfl kF5_33 (Or.inr ⟨hnm, rfl, rfl⟩) rfl rfl d5_init_68 ?_
  obtain ⟨F70, eF70, h⟩ := x_le h
  rw [← eF70]
  refine x_aload_n hX d5_init_71 rfl rfl ?_
  refine x_sipush (v := 768) hX d5_init_72 (by decide) ?_
  obtain ⟨hg71, h⟩ := x_gd h
  refine x_newJ hX kA_long hg44 rfl hg54 (by rw [hR]; exact Nat.le_of_ble_eq_true rfl) (by rw [hR]; exact hg71) d5_init_75 ?_
  obtain ⟨N72, eN72, h⟩ := x_le h
  rw [← eN72]
  obtain ⟨K73, eK73, h⟩ := x_le h
  rw [← eK73]
  obtain ⟨I74, eI74, h⟩ := x_le h
  rw [← eI74]
  obtain ⟨J75, eJ75, h⟩ := x_le h
  rw [← eJ75]
  obtain ⟨F76, eF76, h⟩ := x_le h
  rw [← eF76]
  obtain ⟨hg77, h⟩ := x_gd h
  refine x_putF (j := 9) hX xc5 hg77.1 hg77.2 (by decide) rfl kF5_36 (Or.inr ⟨hnm, rfl, rfl⟩) rfl rfl d5_init_77 ?_
  obtain ⟨F78, eF78, h⟩ := x_le h
  rw [← eF78]
  refine x_aload_n hX d5_init_80 rfl rfl ?_
  refine x_sipush (v := 768) hX d5_init_81 (by decide) ?_
  obtain ⟨hg79, h⟩ := x_gd h
  refine x_newZ hX kA_boolean hg44 rfl hg45 (by rw [hR]; exact Nat.le_of_ble_eq_true rfl) (by rw [hR]; exact hg79) d5_init_84 ?_
  obtain ⟨N80, eN80, h⟩ := x_le h
  rw [← eN80]
  obtain ⟨K81, eK81, h⟩ := x_le h
  rw [← eK81]
  obtain ⟨I82, eI82, h⟩ := x_le h
  rw [← eI82]
  obtain ⟨J83, eJ83, h⟩ := x_le h
  rw [← eJ83]
  obtain ⟨F84, eF84, h⟩ := x_le h
  rw [← eF84]
  obtain ⟨hg85, h⟩ := x_gd h
  refine x_putF (j := 10) hX xc5 hg85.1 hg85.2 (by decide) rfl kF5_39 (Or.inr ⟨hnm, rfl, rfl⟩) rfl rfl d5_init_86 ?_
  obtain ⟨F86, eF86, h⟩ := x_le h
  rw [← eF86]
  refine x_aload_n hX d5_init_89 rfl rfl ?_
  refine x_sipush (v := 768) hX d5_init_90 (by decide) ?_
  obtain ⟨hg87, h⟩ := x_gd h
  refine x_newJ hX kA_long hg44 rfl hg54 (by rw [hR]; exact Nat.le_of_ble_eq_true rfl) (by rw [hR]; exact hg87) d5_init_93 ?_
  obtain ⟨N88, eN88, h⟩ := x_le h
  rw [← eN88]
  obtain ⟨K89, eK89, h⟩ := x_le h
  rw [← eK89]
  obtain ⟨I90, eI90, h⟩ := x_le h
  rw [← eI90]
  obtain ⟨J91, eJ91, h⟩ := x_le h
  rw [← eJ91]
  obtain ⟨F92, eF92, h⟩ := x_le h
  rw [← eF92]
  obtain ⟨hg93, h⟩ := x_gd h
  refine x_putF (j := 11) hX xc5 hg93.1 hg93.2 (by decide) rfl kF5_42 (Or.inr ⟨hnm, rfl, rfl⟩) rfl rfl d5_init_95 ?_
  obtain ⟨F94, eF94, h⟩ := x_le h
  rw [← eF94]
  refine x_aload_n hX d5_init_98 rfl rfl ?_
  refine x_sipush (v := 2400) hX d5_init_99 (by decide) ?_
  obtain ⟨hg95, h⟩ := x_gd h
  obtain ⟨hg96, h⟩ := x_gd h
  obtain ⟨hg97, h⟩ := x_gd h
  refine x_newI hX kA_int hg95 rfl hg96 (by rw [hR]; exact Nat.le_of_ble_eq_true rfl) (by rw [hR]; exact hg97) d5_init_102 ?_
  obtain ⟨N98, eN98, h⟩ := x_le h
  rw [← eN98]
  obtain ⟨K99, eK99, h⟩ := x_le h
  rw [← eK99]
  obtain ⟨I100, eI100, h⟩ := x_le h
  rw [← eI100]
  obtain ⟨J101, eJ101, h⟩ := x_le h
  rw [← eJ101]
  obtain ⟨F102, eF102, h⟩ := x_le h
  rw [← eF102]
  obtain ⟨hg103, h⟩ := x_gd h
  refine x_putF (j := 12) hX xc5 hg103.1 hg103.2 (by decide) rfl kF5_45 (Or.inr ⟨hnm, rfl, rfl⟩) rfl rfl d5_init_104 ?_
  obtain ⟨F104, eF104, h⟩ := x_le h
  rw [← eF104]
  refine x_aload_n hX d5_init_107 rfl rfl ?_
  refine x_sipush (v := 2400) hX d5_init_108 (by decide) ?_
  obtain ⟨hg105, h⟩ := x_gd h
  refine x_newI hX kA_int hg95 rfl hg96 (by rw [hR]; exact Nat.le_of_ble_eq_true rfl) (by rw [hR]; exact hg105) d5_init_111 ?_
  obtain ⟨N106, eN106, h⟩ := x_le h
  rw [← eN106]
  obtain ⟨K107, eK107, h⟩ := x_le h
  rw [← eK107]
  obtain ⟨I108, eI108, h⟩ := x_le h
  rw [← eI108]
  obtain ⟨J109, eJ109, h⟩ := x_le h
  rw [← eJ109]
  obtain ⟨F110, eF110, h⟩ := x_le h
  rw [← eF110]
  obtain ⟨hg111, h⟩ := x_gd h
  refine x_putF (j := 13) hX xc5 hg111.1 hg111.2 (by decide) rfl kF5_48 (Or.inr ⟨hnm, rfl, rfl⟩) rfl rfl d5_init_113 ?_
  obtain ⟨F112, eF112, h⟩ := x_le h
  rw [← eF112]
  refine x_aload_n hX d5_init_116 rfl rfl ?_
  refine x_sipush (v := 2400) hX d5_init_117 (by decide) ?_
  obtain ⟨hg113, h⟩ := x_gd h
  refine x_newI hX kA_int hg95 rfl hg96 (by rw [hR]; exact Nat.le_of_ble_eq_true rfl) (by rw [hR]; exact hg113) d5_init_120 ?_
  obtain ⟨N114, eN114, h⟩ := x_le h
  rw [← eN114]
  obtain ⟨K115, eK115, h⟩ := x_le h
  rw [← eK115]
  obtain ⟨I116, eI116, h⟩ := x_le h
  rw [← eI116]
  obtain ⟨J117, eJ117, h⟩ := x_le h
  rw [← eJ117]
  obtain ⟨F118, eF118, h⟩ := x_le h
  rw [← eF118]
  obtain ⟨hg119, h⟩ := x_gd h
  refine x_putF (j := 14) hX xc5 hg119.1 hg119.2 (by decide) rfl kF5_51 (Or.inr ⟨hnm, rfl, rfl⟩) rfl rfl d5_init_122 ?_
  obtain ⟨F120, eF120, h⟩ := x_le h
  rw [← eF120]
  refine x_aload_n hX d5_init_125 rfl rfl ?_
  refine x_sipush (v := 2400) hX d5_init_126 (by decide) ?_
  obtain ⟨hg121, h⟩ := x_gd h
  obtain ⟨hg122, h⟩ := x_gd h
  refine x_newJ hX kA_long hg95 rfl hg121 (by rw [hR]; exact Nat.le_of_ble_eq_true rfl) (by rw [hR]; exact hg122) d5_init_129 ?_
  obtain ⟨N123, eN123, h⟩ := x_le h
  rw [← eN123]
  obtain ⟨K124, eK124, h⟩ := x_le h
  rw [← eK124]
  obtain ⟨I125, eI125, h⟩ := x_le h
  rw [← eI125]
  obtain ⟨J126, eJ126, h⟩ := x_le h
  rw [← eJ126]
  obtain ⟨F127, eF127, h⟩ := x_le h
  rw [← eF127]
  obtain ⟨hg128, h⟩ := x_gd h
  refine x_putF (j := 15) hX xc5 hg128.1 hg128.2 (by decide) rfl kF5_54 (Or.inr ⟨hnm, rfl, rfl⟩) rfl rfl d5_init_131 ?_
  obtain ⟨F129, eF129, h⟩ := x_le h
  rw [← eF129]
  refine x_aload_n hX d5_init_134 rfl rfl ?_
  refine x_sipush (v := 2400) hX d5_init_135 (by decide) ?_
  obtain ⟨hg130, h⟩ := x_gd h
  refine x_newJ hX kA_long hg95 rfl hg121 (by rw [hR]; exact Nat.le_of_ble_eq_true rfl) (by rw [hR]; exact hg130) d5_init_138 ?_
  obtain ⟨N131, eN131, h⟩ := x_le h
  rw [← eN131]
  obtain ⟨K132, eK132, h⟩ := x_le h
  rw [← eK132]
  obtain ⟨I133, eI133, h⟩ := x_le h
  rw [← eI133]
  obtain ⟨J134, eJ134, h⟩ := x_le h
  rw [← eJ134]
  obtain ⟨F135, eF135, h⟩ := x_le h
  rw [← eF135]
  obtain ⟨hg136, h⟩ := x_gd h
  refine x_putF (j := 16) hX xc5 hg136.1 hg136.2 (by decide) rfl kF5_57 (Or.inr ⟨hnm, rfl, rfl⟩) rfl rfl d5_init_140 ?_
  obtain ⟨F137, eF137, h⟩ := x_le h
  rw [← eF137]
  refine x_aload_n hX d5_init_143 rfl rfl ?_
  refine x_bipush (v := 40) hX d5_init_144 (by decide) ?_
  obtain ⟨hg138, h⟩ := x_gd h
  obtain ⟨hg139, h⟩ := x_gd h
  obtain ⟨hg140, h⟩ := x_gd h
  refine x_newI hX kA_int hg138 rfl hg139 (by rw [hR]; exact Nat.le_of_ble_eq_true rfl) (by rw [hR]; exact hg140) d5_init_146 ?_
  obtain ⟨N141, eN141, h⟩ := x_le h
  rw [← eN141]
  obtain ⟨K142, eK142, h⟩ := x_le h
  rw [← eK142]
  obtain ⟨I143, eI143, h⟩ := x_le h
  rw [← eI143]
  obtain ⟨J144, eJ144, h⟩ := x_le h
  rw [← eJ144]
  obtain ⟨F145, eF145, h⟩ := x_le h
  rw [← eF145]
  obtain ⟨hg146, h⟩ := x_gd h
  refine x_putF (j := 22) hX xc5 hg146.1 hg146.2 (by decide) rfl kF5_60 (Or.inr ⟨hnm, rfl, rfl⟩) rfl rfl d5_init_148 ?_
  obtain ⟨F147, eF147, h⟩ := x_le h
  rw [← eF147]
  refine x_aload_n hX d5_init_151 rfl rfl ?_
  refine x_bipush (v := 40) hX d5_init_152 (by decide) ?_
  obtain ⟨hg148, h⟩ := x_gd h
  refine x_newI hX kA_int hg138 rfl hg139 (by rw [hR]; exact Nat.le_of_ble_eq_true rfl) (by rw [hR]; exact hg148) d5_init_154 ?_
  obtain ⟨N149, eN149, h⟩ := x_le h
  rw [← eN149]
  obtain ⟨K150, eK150, h⟩ := x_le h
  rw [← eK150]
  obtain ⟨I151, eI151, h⟩ := x_le h
  rw [← eI151]
  obtain ⟨J152, eJ152, h⟩ := x_le h
  rw [← eJ152]
  obtain ⟨F153, eF153, h⟩ := x_le h
  rw [← eF153]
  obtain ⟨hg154, h⟩ := x_gd h
  refine x_putF (j := 23) hX xc5 hg154.1 hg154.2 (by decide) rfl kF5_63 (Or.inr ⟨hnm, rfl, rfl⟩) rfl rfl d5_init_156 ?_
  obtain ⟨F155, eF155, h⟩ := x_le h
  rw [← eF155]
  refine x_aload_n hX d5_init_159 rfl rfl ?_
  refine x_bipush (v := 40) hX d5_init_160 (by decide) ?_
  obtain ⟨hg156, h⟩ := x_gd h
  obtain ⟨hg157, h⟩ := x_gd h
  refine x_newZ hX kA_boolean hg138 rfl hg156 (by rw [hR]; exact Nat.le_of_ble_eq_true rfl) (by rw [hR]; exact hg157) d5_init_162 ?_
  obtain ⟨N158, eN158, h⟩ := x_le h
  rw [← eN158]
  obtain ⟨K159, eK159, h⟩ := x_le h
  rw [← eK159]
  obtain ⟨I160, eI160, h⟩ := x_le h
  rw [← eI160]
  obtain ⟨J161, eJ161, h⟩ := x_le h
  rw [← eJ161]
  obtain ⟨F162, eF162, h⟩ := x_le h
  rw [← eF162]
  obtain ⟨hg163, h⟩ := x_gd h
  refine x_putF (j := 24) hX xc5 hg163.1 hg163.2 (by decide) rfl kF5_66 (Or.inr ⟨hnm, rfl, rfl⟩) rfl rfl d5_init_164 ?_
  obtain ⟨F164, eF164, h⟩ := x_le h
  rw [← eF164]
  refine x_aload_n hX d5_init_167 rfl rfl ?_
  refine x_bipush (v := 40) hX d5_init_168 (by decide) ?_
  obtain ⟨hg165, h⟩ := x_gd h
  obtain ⟨hg166, h⟩ := x_gd h
  refine x_newJ hX kA_long hg138 rfl hg165 (by rw [hR]; exact Nat.le_of_ble_eq_true rfl) (by rw [hR]; exact hg166) d5_init_170 ?_
  obtain ⟨N167, eN167, h⟩ := x_le h
  rw [← eN167]
  obtain ⟨K168, eK168, h⟩ := x_le h
  rw [← eK168]
  obtain ⟨I169, eI169, h⟩ := x_le h
  rw [← eI169]
  obtain ⟨J170, eJ170, h⟩ := x_le h
  rw [← eJ170]
  obtain ⟨F171, eF171, h⟩ := x_le h
  rw [← eF171]
  obtain ⟨hg172, h⟩ := x_gd h
  refine x_putF (j := 25) hX xc5 hg172.1 hg172.2 (by decide) rfl kF5_69 (Or.inr ⟨hnm, rfl, rfl⟩) rfl rfl d5_init_172 ?_
  obtain ⟨F173, eF173, h⟩ := x_le h
  rw [← eF173]
  refine x_aload_n hX d5_init_175 rfl rfl ?_
  refine x_bipush (v := 64) hX d5_init_176 (by decide) ?_
  obtain ⟨hg174, h⟩ := x_gd h
  obtain ⟨hg175, h⟩ := x_gd h
  obtain ⟨hg176, h⟩ := x_gd h
  refine x_newZ hX kA_boolean hg174 rfl hg175 (by rw [hR]; exact Nat.le_of_ble_eq_true rfl) (by rw [hR]; exact hg176) d5_init_178 ?_
  obtain ⟨N177, eN177, h⟩ := x_le h
  rw [← eN177]
  obtain ⟨K178, eK178, h⟩ := x_le h
  rw [← eK178]
  obtain ⟨I179, eI179, h⟩ := x_le h
  rw [← eI179]
  obtain ⟨J180, eJ180, h⟩ := x_le h
  rw [← eJ180]
  obtain ⟨F181, eF181, h⟩ := x_le h
  rw [← eF181]
  obtain ⟨hg182, h⟩ := x_gd h
  refine x_putF (j := 26) hX xc5 hg182.1 hg182.2 (by decide) rfl kF5_72 (Or.inr ⟨hnm, rfl, rfl⟩) rfl rfl d5_init_180 ?_
  obtain ⟨F183, eF183, h⟩ := x_le h
  rw [← eF183]
  refine x_aload_n hX d5_init_183 rfl rfl ?_
  refine x_bipush (v := 64) hX d5_init_184 (by decide) ?_
  obtain ⟨hg184, h⟩ := x_gd h
  obtain ⟨hg185, h⟩ := x_gd h
  refine x_newJ hX kA_long hg174 rfl hg184 (by rw [hR]; exact Nat.le_of_ble_eq_true rfl) (by rw [hR]; exact hg185) d5_init_186 ?_
  obtain ⟨N186, eN186, h⟩ := x_le h
  rw [← eN186]
  obtain ⟨K187, eK187, h⟩ := x_le h
  rw [← eK187]
  obtain ⟨I188, eI188, h⟩ := x_le h
  rw [← eI188]
  obtain ⟨J189, eJ189, h⟩ := x_le h
  rw [← eJ189]
  obtain ⟨F190, eF190, h⟩ := x_le h
  rw [← eF190]
  obtain ⟨hg191, h⟩ := x_gd h
  refine x_putF (j := 27) hX xc5 hg191.1 hg191.2 (by decide) rfl kF5_75 (Or.inr ⟨hnm, rfl, rfl⟩) rfl rfl d5_init_188 ?_
  obtain ⟨F192, eF192, h⟩ := x_le h
  rw [← eF192]
  refine x_aload_n hX d5_init_191 rfl rfl ?_
  refine x_bipush (v := 64) hX d5_init_192 (by decide) ?_
  obtain ⟨hg193, h⟩ := x_gd h
  refine x_newZ hX kA_boolean hg174 rfl hg175 (by rw [hR]; exact Nat.le_of_ble_eq_true rfl) (by rw [hR]; exact hg193) d5_init_194 ?_
  obtain ⟨N194, eN194, h⟩ := x_le h
  rw [← eN194]
  obtain ⟨K195, eK195, h⟩ := x_le h
  rw [← eK195]
  obtain ⟨I196, eI196, h⟩ := x_le h
  rw [← eI196]
  obtain ⟨J197, eJ197, h⟩ := x_le h
  rw [← eJ197]
  obtain ⟨F198, eF198, h⟩ := x_le h
  rw [← eF198]
  obtain ⟨hg199, h⟩ := x_gd h
  refine x_putF (j := 28) hX xc5 hg199.1 hg199.2 (by decide) rfl kF5_78 (Or.inr ⟨hnm, rfl, rfl⟩) rfl rfl d5_init_196 ?_
  obtain ⟨F200, eF200, h⟩ := x_le h
  rw [← eF200]
  refine x_aload_n hX d5_init_199 rfl rfl ?_
  refine x_bipush (v := 64) hX d5_init_200 (by decide) ?_
  obtain ⟨hg201, h⟩ := x_gd h
  refine x_newJ hX kA_long hg174 rfl hg184 (by rw [hR]; exact Nat.le_of_ble_eq_true rfl) (by rw [hR]; exact hg201) d5_init_202 ?_
  obtain ⟨N202, eN202, h⟩ := x_le h
  rw [← eN202]
  obtain ⟨K203, eK203, h⟩ := x_le h
  rw [← eK203]
  obtain ⟨I204, eI204, h⟩ := x_le h
  rw [← eI204]
  obtain ⟨J205, eJ205, h⟩ := x_le h
  rw [← eJ205]
  obtain ⟨F206, eF206, h⟩ := x_le h
  rw [← eF206]
  obtain ⟨hg207, h⟩ := x_gd h
  refine x_putF (j := 29) hX xc5 hg207.1 hg207.2 (by decide) rfl kF5_81 (Or.inr ⟨hnm, rfl, rfl⟩) rfl rfl d5_init_204 ?_
  obtain ⟨F208, eF208, h⟩ := x_le h
  rw [← eF208]
  refine x_aload_n hX d5_init_207 rfl rfl ?_
  obtain ⟨I209, eb210, h⟩ := x_bd h
  refine x_callV hX hR (c_m5_begins (l := x_l X) (d := d + 0) eb210) kX5_84 kN5_begins kE5_begins xc5.1 hg207.1 hg207.2 rfl rfl (Nat.le_of_ble_eq_true rfl) ⟨Nat.le_of_ble_eq_true rfl, hg201⟩ d5_init_208 (x_kkv ?_)
  refine x_wide (a' := 24) (b' := ms) (Nat.le_of_ble_eq_true rfl) hg201 ?_
  cases h
  exact x_vret hX hr d5_init_211 (fun H hP => ⟨rfl, hP⟩)
