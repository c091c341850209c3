set_option maxRecDepth 100000 in
set_option maxHeartbeats 4000000 in
def m0_init (ms N : Nat) (K : Nat → Nat × Nat) (F : Nat → Nat → Option Nat) (I : (Nat → Nat → Int32)) (J : (Nat → Nat → Int64)) (a0 : Nat) : Option (Nat × (Nat → Nat × Nat) × (Nat → Nat → Option Nat) × (Nat → Nat → Int32) × (Nat → Nat → Int64)) :=
  if ¬ (12 : Int32) < 0 then (if (12 : Int32).toNatClampNeg * 4 ≤ 536870912 then (if 0 + (12 : Int32).toNatClampNeg ≤ ms then (xlet (N + 1) fun N4 => xlet (va_up K N (4, (12 : Int32).toNatClampNeg)) fun K5 => xlet (va_up I N (fun _ => 0)) fun I6 => xlet (va_up J N (fun _ => 0)) fun J7 => xlet (va_up F N (fun _ => none)) fun F8 => if a0 < N4 ∧ K5 a0 = (0, 0) then (xlet (xu F8 a0 0 (some N)) fun F10 => xlet (xu I6 a0 1 (0 : Int32)) fun I11 => if 0 + (12 : Int32).toNatClampNeg + 6 ≤ ms then (xlet (N4 + 1) fun N13 => xlet (va_up K5 N4 (0, 1)) fun K14 => xlet (va_up I11 N4 (fun _ => 0)) fun I15 => xlet (va_up J7 N4 (fun _ => 0)) fun J16 => xlet (va_up F10 N4 (fun _ => none)) fun F17 => if 0 + (12 : Int32).toNatClampNeg + 6 + 160 ≤ ms then (xb (m1_init 160 N13 K14 F17 I15 J16 N4) fun (N19, K20, F21, I22, J23) => if a0 < N19 ∧ K20 a0 = (0, 0) then (xlet (xu F21 a0 2 (some N4)) fun F26 => if 0 + (12 : Int32).toNatClampNeg + 6 + 160 + 4 ≤ ms then (xlet (N19 + 1) fun N28 => xlet (va_up K20 N19 (0, 2)) fun K29 => xlet (va_up I22 N19 (fun _ => 0)) fun I30 => xlet (va_up J23 N19 (fun _ => 0)) fun J31 => xlet (va_up F26 N19 (fun _ => none)) fun F32 => if 0 + (12 : Int32).toNatClampNeg + 6 + 160 + 4 + 4500 ≤ ms then (xb (m2_init 4500 N28 K29 F32 I30 J31 N19 (1500 : Int32)) fun (N34, K35, F36, I37, J38) => if a0 < N34 ∧ K35 a0 = (0, 0) then (xlet (xu F36 a0 3 (some N19)) fun F41 => if 0 + (12 : Int32).toNatClampNeg + 6 + 160 + 4 + 4500 + 4 ≤ ms then (xlet (N34 + 1) fun N43 => xlet (va_up K35 N34 (0, 2)) fun K44 => xlet (va_up I37 N34 (fun _ => 0)) fun I45 => xlet (va_up J38 N34 (fun _ => 0)) fun J46 => xlet (va_up F41 N34 (fun _ => none)) fun F47 => if 0 + (12 : Int32).toNatClampNeg + 6 + 160 + 4 + 4500 + 4 + 2304 ≤ ms then (xb (m2_init 2304 N43 K44 F47 I45 J46 N34 (768 : Int32)) fun (N49, K50, F51, I52, J53) => if a0 < N49 ∧ K50 a0 = (0, 0) then (xlet (xu F51 a0 4 (some N34)) fun F56 => if 0 + (12 : Int32).toNatClampNeg + 6 + 160 + 4 + 4500 + 4 + 2304 + 4 ≤ ms then (xlet (N49 + 1) fun N58 => xlet (va_up K50 N49 (0, 2)) fun K59 => xlet (va_up I52 N49 (fun _ => 0)) fun I60 => xlet (va_up J53 N49 (fun _ => 0)) fun J61 => xlet (va_up F56 N49 (fun _ => none)) fun F62 => if 0 + (12 : Int32).toNatClampNeg + 6 + 160 + 4 + 4500 + 4 + 2304 + 4 + 192 ≤ ms then (xb (m2_init 192 N58 K59 F62 I60 J61 N49 (64 : Int32)) fun (N64, K65, F66, I67, J68) => if a0 < N64 ∧ K65 a0 = (0, 0) then (xlet (xu F66 a0 5 (some N49)) fun F71 => if 0 + (12 : Int32).toNatClampNeg + 6 + 160 + 4 + 4500 + 4 + 2304 + 4 + 192 + 2 ≤ ms then (xlet (N64 + 1) fun N73 => xlet (va_up K65 N64 (0, 3)) fun K74 => xlet (va_up I67 N64 (fun _ => 0)) fun I75 => xlet (va_up J68 N64 (fun _ => 0)) fun J76 => xlet (va_up F71 N64 (fun _ => none)) fun F77 => if 0 + (12 : Int32).toNatClampNeg + 6 + 160 + 4 + 4500 + 4 + 2304 + 4 + 192 + 2 + 64 ≤ ms then (xb (m3_init 64 N73 K74 F77 I75 J76 N64) fun (N79, K80, F81, I82, J83) => if a0 < N79 ∧ K80 a0 = (0, 0) then (xlet (xu F81 a0 6 (some N64)) fun F86 => if 0 + (12 : Int32).toNatClampNeg + 6 + 160 + 4 + 4500 + 4 + 2304 + 4 + 192 + 2 + 64 + 2 ≤ ms then (xlet (N79 + 1) fun N88 => xlet (va_up K80 N79 (0, 3)) fun K89 => xlet (va_up I82 N79 (fun _ => 0)) fun I90 => xlet (va_up J83 N79 (fun _ => 0)) fun J91 => xlet (va_up F86 N79 (fun _ => none)) fun F92 => if 0 + (12 : Int32).toNatClampNeg + 6 + 160 + 4 + 4500 + 4 + 2304 + 4 + 192 + 2 + 64 + 2 + 64 ≤ ms then (xb (m3_init 64 N88 K89 F92 I90 J91 N79) fun (N94, K95, F96, I97, J98) => if a0 < N94 ∧ K95 a0 = (0, 0) then (xlet (xu F96 a0 7 (some N79)) fun F101 => if 0 + (12 : Int32).toNatClampNeg + 6 + 160 + 4 + 4500 + 4 + 2304 + 4 + 192 + 2 + 64 + 2 + 64 + 2 ≤ ms then (xlet (N94 + 1) fun N103 => xlet (va_up K95 N94 (0, 3)) fun K104 => xlet (va_up I97 N94 (fun _ => 0)) fun I105 => xlet (va_up J98 N94 (fun _ => 0)) fun J106 => xlet (va_up F101 N94 (fun _ => none)) fun F107 => if 0 + (12 : Int32).toNatClampNeg + 6 + 160 + 4 + 4500 + 4 + 2304 + 4 + 192 + 2 + 64 + 2 + 64 + 2 + 64 ≤ ms then (xb (m3_init 64 N103 K104 F107 I105 J106 N94) fun (N109, K110, F111, I112, J113) => if a0 < N109 ∧ K110 a0 = (0, 0) then (xlet (xu F111 a0 8 (some N94)) fun F116 => if 0 + (12 : Int32).toNatClampNeg + 6 + 160 + 4 + 4500 + 4 + 2304 + 4 + 192 + 2 + 64 + 2 + 64 + 2 + 64 + 2 ≤ ms then (xlet (N109 + 1) fun N118 => xlet (va_up K110 N109 (0, 3)) fun K119 => xlet (va_up I112 N109 (fun _ => 0)) fun I120 => xlet (va_up J113 N109 (fun _ => 0)) fun J121 => xlet (va_up F116 N109 (fun _ => none)) fun F122 => if 0 + (12 : Int32).toNatClampNeg + 6 + 160 + 4 + 4500 + 4 + 2304 + 4 + 192 + 2 + 64 + 2 + 64 + 2 + 64 + 2 + 64 ≤ ms then (xb (m3_init 64 N118 K119 F122 I120 J121 N109) fun (N124, K125, F126, I127, J128) => if a0 < N124 ∧ K125 a0 = (0, 0) then (xlet (xu F126 a0 9 (some N109)) fun F131 => xb (F131 a0 0) fun q132 => if 0 + (12 : Int32).toNatClampNeg + 6 + 160 + 4 + 4500 + 4 + 2304 + 4 + 192 + 2 + 64 + 2 + 64 + 2 + 64 + 2 + 64 + 10 ≤ ms then (xlet (N124 + 1) fun N134 => xlet (va_up K125 N124 (0, 4)) fun K135 => xlet (va_up I127 N124 (fun _ => 0)) fun I136 => xlet (va_up J128 N124 (fun _ => 0)) fun J137 => xlet (va_up F131 N124 (fun _ => none)) fun F138 => if 0 + (12 : Int32).toNatClampNeg + 6 + 160 + 4 + 4500 + 4 + 2304 + 4 + 192 + 2 + 64 + 2 + 64 + 2 + 64 + 2 + 64 + 10 + 262 ≤ ms then (xb (m4_init 262 N134 K135 F138 I136 J137 N124) fun (N140, K141, F142, I143, J144) => if q132 < N140 ∧ (K141 q132).1 = 4 ∧ xinb (0 : Int32) (K141 q132).2 then (if N124 < N140 ∧ K141 N124 = (0, 4) then (xlet (xu F142 q132 ((0 : Int32).toNatClampNeg) (some N124)) fun F148 => if a0 < N140 ∧ K141 a0 = (0, 0) then (xb (F148 a0 0) fun q150 => if 0 + (12 : Int32).toNatClampNeg + 6 + 160 + 4 + 4500 + 4 + 2304 + 4 + 192 + 2 + 64 + 2 + 64 + 2 + 64 + 2 + 64 + 10 + 262 + 10 ≤ ms then (xlet (N140 + 1) fun N152 => xlet (va_up K141 N140 (0, 4)) fun K153 => xlet (va_up I143 N140 (fun _ => 0)) fun I154 => xlet (va_up J144 N140 (fun _ => 0)) fun J155 => xlet (va_up F148 N140 (fun _ => none)) fun F156 => if 0 + (12 : Int32).toNatClampNeg + 6 + 160 + 4 + 4500 + 4 + 2304 + 4 + 192 + 2 + 64 + 2 + 64 + 2 + 64 + 2 + 64 + 10 + 262 + 10 + 262 ≤ ms then (xb (m4_init 262 N152 K153 F156 I154 J155 N140) fun (N158, K159, F160, I161, J162) => if q150 < N158 ∧ (K159 q150).1 = 4 ∧ xinb (1 : Int32) (K159 q150).2 then (if N140 < N158 ∧ K159 N140 = (0, 4) then (xlet (xu F160 q150 ((1 : Int32).toNatClampNeg) (some N140)) fun F166 => if a0 < N158 ∧ K159 a0 = (0, 0) then (xb (F166 a0 0) fun q168 => if 0 + (12 : Int32).toNatClampNeg + 6 + 160 + 4 + 4500 + 4 + 2304 + 4 + 192 + 2 + 64 + 2 + 64 + 2 + 64 + 2 + 64 + 10 + 262 + 10 + 262 + 10 ≤ ms then (xlet (N158 + 1) fun N170 => xlet (va_up K159 N158 (0, 4)) fun K171 => xlet (va_up I161 N158 (fun _ => 0)) fun I172 => xlet (va_up J162 N158 (fun _ => 0)) fun J173 => xlet (va_up F166 N158 (fun _ => none)) fun F174 => if 0 + (12 : Int32).toNatClampNeg + 6 + 160 + 4 + 4500 + 4 + 2304 + 4 + 192 + 2 + 64 + 2 + 64 + 2 + 64 + 2 + 64 + 10 + 262 + 10 + 262 + 10 + 262 ≤ ms then (xb (m4_init 262 N170 K171 F174 I172 J173 N158) fun (N176, K177, F178, I179, J180) => if q168 < N176 ∧ (K177 q168).1 = 4 ∧ xinb (2 : Int32) (K177 q168).2 then (if N158 < N176 ∧ K177 N158 = (0, 4) then (xlet (xu F178 q168 ((2 : Int32).toNatClampNeg) (some N158)) fun F184 => if a0 < N176 ∧ K177 a0 = (0, 0) then (xb (F184 a0 0) fun q186 => if 0 + (12 : Int32).toNatClampNeg + 6 + 160 + 4 + 4500 + 4 + 2304 + 4 + 192 + 2 + 64 + 2 + 64 + 2 + 64 + 2 + 64 + 10 + 262 + 10 + 262 + 10 + 262 + 10 ≤ ms then (xlet (N176 + 1) fun N188 => xlet (va_up K177 N176 (0, 4)) fun K189 => xlet (va_up I179 N176 (fun _ => 0)) fun I190 => xlet (va_up J180 N176 (fun _ => 0)) fun J191 => xlet (va_up F184 N176 (fun _ => none)) fun F192 => if 0 + (12 : Int32).toNatClampNeg + 6 + 160 + 4 + 4500 + 4 + 2304 + 4 + 192 + 2 + 64 + 2 + 64 + 2 + 64 + 2 + 64 + 10 + 262 + 10 + 262 + 10 + 262 + 10 + 262 ≤ ms then (xb (m4_init 262 N188 K189 F192 I190 J191 N176) fun (N194, K195, F196, I197, J198) => if q186 < N194 ∧ (K195 q186).1 = 4 ∧ xinb (3 : Int32) (K195 q186).2 then (if N176 < N194 ∧ K195 N176 = (0, 4) then (xlet (xu F196 q186 ((3 : Int32).toNatClampNeg) (some N176)) fun F202 => if a0 < N194 ∧ K195 a0 = (0, 0) then (xb (F202 a0 0) fun q204 => if 0 + (12 : Int32).toNatClampNeg + 6 + 160 + 4 + 4500 + 4 + 2304 + 4 + 192 + 2 + 64 + 2 + 64 + 2 + 64 + 2 + 64 + 10 + 262 + 10 + 262 + 10 + 262 + 10 + 262 + 10 ≤ ms then (xlet (N194 + 1) fun N206 => xlet (va_up K195 N194 (0, 4)) fun K207 => xlet (va_up I197 N194 (fun _ => 0)) fun I208 => xlet (va_up J198 N194 (fun _ => 0)) fun J209 => xlet (va_up F202 N194 (fun _ => none)) fun F210 => if 0 + (12 : Int32).toNatClampNeg + 6 + 160 + 4 + 4500 + 4 + 2304 + 4 + 192 + 2 + 64 + 2 + 64 + 2 + 64 + 2 + 64 + 10 + 262 + 10 + 262 + 10 + 262 + 10 + 262 + 10 + 262 ≤ ms then (xb (m4_init 262 N206 K207 F210 I208 J209 N194) fun (N212, K213, F214, I215, J216) => if q204 < N212 ∧ (K213 q204).1 = 4 ∧ xinb (4 : Int32) (K213 q204).2 then (if N194 < N212 ∧ K213 N194 = (0, 4) then (xlet (xu F214 q204 ((4 : Int32).toNatClampNeg) (some N194)) fun F220 => if a0 < N212 ∧ K213 a0 = (0, 0) then (xb (F220 a0 0) fun q222 => if 0 + (12 : Int32).toNatClampNeg + 6 + 160 + 4 + 4500 + 4 + 2304 + 4 + 192 + 2 + 64 + 2 + 64 + 2 + 64 + 2 + 64 + 10 + 262 + 10 + 262 + 10 + 262 + 10 + 262 + 10 + 262 + 10 ≤ ms then (xlet (N212 + 1) fun N224 => xlet (va_up K213 N212 (0, 4)) fun K225 => xlet (va_up I215 N212 (fun _ => 0)) fun I226 => xlet (va_up J216 N212 (fun _ => 0)) fun J227 => xlet (va_up F220 N212 (fun _ => none)) fun F228 => if 0 + (12 : Int32).toNatClampNeg + 6 + 160 + 4 + 4500 + 4 + 2304 + 4 + 192 + 2 + 64 + 2 + 64 + 2 + 64 + 2 + 64 + 10 + 262 + 10 + 262 + 10 + 262 + 10 + 262 + 10 + 262 + 10 + 262 ≤ ms then (xb (m4_init 262 N224 K225 F228 I226 J227 N212) fun (N230, K231, F232, I233, J234) => if q222 < N230 ∧ (K231 q222).1 = 4 ∧ xinb (5 : Int32) (K231 q222).2 then (if N212 < N230 ∧ K231 N212 = (0, 4) then (xlet (xu F232 q222 ((5 : Int32).toNatClampNeg) (some N212)) fun F238 => if a0 < N230 ∧ K231 a0 = (0, 0) then (xb (F238 a0 0) fun q240 => if 0 + (12 : Int32).toNatClampNeg + 6 + 160 + 4 + 4500 + 4 + 2304 + 4 + 192 + 2 + 64 + 2 + 64 + 2 + 64 + 2 + 64 + 10 + 262 + 10 + 262 + 10 + 262 + 10 + 262 + 10 + 262 + 10 + 262 + 10 ≤ ms then (xlet (N230 + 1) fun N242 => xlet (va_up K231 N230 (0, 4)) fun K243 => xlet (va_up I233 N230 (fun _ => 0)) fun I244 => xlet (va_up J234 N230 (fun _ => 0)) fun J245 => xlet (va_up F238 N230 (fun _ => none)) fun F246 => if 0 + (12 : Int32).toNatClampNeg + 6 + 160 + 4 + 4500 + 4 + 2304 + 4 + 192 + 2 + 64 + 2 + 64 + 2 + 64 + 2 + 64 + 10 + 262 + 10 + 262 + 10 + 262 + 10 + 262 + 10 + 262 + 10 + 262 + 10 + 262 ≤ ms then (xb (m4_init 262 N242 K243 F246 I244 J245 N230) fun (N248, K249, F250, I251, J252) => if q240 < N248 ∧ (K249 q240).1 = 4 ∧ xinb (6 : Int32) (K249 q240).2 then (if N230 < N248 ∧ K249 N230 = (0, 4) then (xlet (xu F250 q240 ((6 : Int32).toNatClampNeg) (some N230)) fun F256 => if a0 < N248 ∧ K249 a0 = (0, 0) then (xb (F256 a0 0) fun q258 => if 0 + (12 : Int32).toNatClampNeg + 6 + 160 + 4 + 4500 + 4 + 2304 + 4 + 192 + 2 + 64 + 2 + 64 + 2 + 64 + 2 + 64 + 10 + 262 + 10 + 262 + 10 + 262 + 10 + 262 + 10 + 262 + 10 + 262 + 10 + 262 + 10 ≤ ms then (xlet (N248 + 1) fun N260 => xlet (va_up K249 N248 (0, 4)) fun K261 => xlet (va_up I251 N248 (fun _ => 0)) fun I262 => xlet (va_up J252 N248 (fun _ => 0)) fun J263 => xlet (va_up F256 N248 (fun _ => none)) fun F264 => if 0 + (12 : Int32).toNatClampNeg + 6 + 160 + 4 + 4500 + 4 + 2304 + 4 + 192 + 2 + 64 + 2 + 64 + 2 + 64 + 2 + 64 + 10 + 262 + 10 + 262 + 10 + 262 + 10 + 262 + 10 + 262 + 10 + 262 + 10 + 262 + 10 + 262 ≤ ms then (xb (m4_init 262 N260 K261 F264 I262 J263 N248) fun (N266, K267, F268, I269, J270) => if q258 < N266 ∧ (K267 q258).1 = 4 ∧ xinb (7 : Int32) (K267 q258).2 then (if N248 < N266 ∧ K267 N248 = (0, 4) then (xlet (xu F268 q258 ((7 : Int32).toNatClampNeg) (some N248)) fun F274 => if a0 < N266 ∧ K267 a0 = (0, 0) then (xb (F274 a0 0) fun q276 => if 0 + (12 : Int32).toNatClampNeg + 6 + 160 + 4 + 4500 + 4 + 2304 + 4 + 192 + 2 + 64 + 2 + 64 + 2 + 64 + 2 + 64 + 10 + 262 + 10 + 262 + 10 + 262 + 10 + 262 + 10 + 262 + 10 + 262 + 10 + 262 + 10 + 262 + 10 ≤ ms then (xlet (N266 + 1) fun N278 => xlet (va_up K267 N266 (0, 4)) fun K279 => xlet (va_up I269 N266 (fun _ => 0)) fun I280 => xlet (va_up J270 N266 (fun _ => 0)) fun J281 => xlet (va_up F274 N266 (fun _ => none)) fun F282 => if 0 + (12 : Int32).toNatClampNeg + 6 + 160 + 4 + 4500 + 4 + 2304 + 4 + 192 + 2 + 64 + 2 + 64 + 2 + 64 + 2 + 64 + 10 + 262 + 10 + 262 + 10 + 262 + 10 + 262 + 10 + 262 + 10 + 262 + 10 + 262 + 10 + 262 + 10 + 262 ≤ ms then (xb (m4_init 262 N278 K279 F282 I280 J281 N266) fun (N284, K285, F286, I287, J288) => if q276 < N284 ∧ (K285 q276).1 = 4 ∧ xinb (8 : Int32) (K285 q276).2 then (if N266 < N284 ∧ K285 N266 = (0, 4) then (xlet (xu F286 q276 ((8 : Int32).toNatClampNeg) (some N266)) fun F292 => if a0 < N284 ∧ K285 a0 = (0, 0) then (xb (F292 a0 0) fun q294 => if 0 + (12 : Int32).toNatClampNeg + 6 + 160 + 4 + 4500 + 4 + 2304 + 4 + 192 + 2 + 64 + 2 + 64 + 2 + 64 + 2 + 64 + 10 + 262 + 10 + 262 + 10 + 262 + 10 + 262 + 10 + 262 + 10 + 262 + 10 + 262 + 10 + 262 + 10 + 262 + 10 ≤ ms then (xlet (N284 + 1) fun N296 => xlet (va_up K285 N284 (0, 4)) fun K297 => xlet (va_up I287 N284 (fun _ => 0)) fun I298 => xlet (va_up J288 N284 (fun _ => 0)) fun J299 => xlet (va_up F292 N284 (fun _ => none)) fun F300 => if 0 + (12 : Int32).toNatClampNeg + 6 + 160 + 4 + 4500 + 4 + 2304 + 4 + 192 + 2 + 64 + 2 + 64 + 2 + 64 + 2 + 64 + 10 + 262 + 10 + 262 + 10 + 262 + 10 + 262 + 10 + 262 + 10 + 262 + 10 + 262 + 10 + 262 + 10 + 262 + 10 + 262 ≤ ms then (xb (m4_init 262 N296 K297 F300 I298 J299 N284) fun (N302, K303, F304, I305, J306) => if q294 < N302 ∧ (K303 q294).1 = 4 ∧ xinb (9 : Int32) (K303 q294).2 then (if N284 < N302 ∧ K303 N284 = (0, 4) then (xlet (xu F304 q294 ((9 : Int32).toNatClampNeg) (some N284)) fun F310 => if a0 < N302 ∧ K303 a0 = (0, 0) then (xb (F310 a0 0) fun q312 => if 0 + (12 : Int32).toNatClampNeg + 6 + 160 + 4 + 4500 + 4 + 2304 + 4 + 192 + 2 + 64 + 2 + 64 + 2 + 64 + 2 + 64 + 10 + 262 + 10 + 262 + 10 + 262 + 10 + 262 + 10 + 262 + 10 + 262 + 10 + 262 + 10 + 262 + 10 + 262 + 10 + 262 + 10 ≤ ms then (xlet (N302 + 1) fun N314 => xlet (va_up K303 N302 (0, 4)) fun K315 => xlet (va_up I305 N302 (fun _ => 0)) fun I316 => xlet (va_up J306 N302 (fun _ => 0)) fun J317 => xlet (va_up F310 N302 (fun _ => none)) fun F318 => if 0 + (12 : Int32).toNatClampNeg + 6 + 160 + 4 + 4500 + 4 + 2304 + 4 + 192 + 2 + 64 + 2 + 64 + 2 + 64 + 2 + 64 + 10 + 262 + 10 + 262 + 10 + 262 + 10 + 262 + 10 + 262 + 10 + 262 + 10 + 262 + 10 + 262 + 10 + 262 + 10 + 262 + 10 + 262 ≤ ms then (xb (m4_init 262 N314 K315 F318 I316 J317 N302) fun (N320, K321, F322, I323, J324) => if q312 < N320 ∧ (K321 q312).1 = 4 ∧ xinb (10 : Int32) (K321 q312).2 then (if N302 < N320 ∧ K321 N302 = (0, 4) then (xlet (xu F322 q312 ((10 : Int32).toNatClampNeg) (some N302)) fun F328 => if a0 < N320 ∧ K321 a0 = (0, 0) then (xb (F328 a0 0) fun q330 => if 0 + (12 : Int32).toNatClampNeg + 6 + 160 + 4 + 4500 + 4 + 2304 + 4 + 192 + 2 + 64 + 2 + 64 + 2 + 64 + 2 + 64 + 10 + 262 + 10 + 262 + 10 + 262 + 10 + 262 + 10 + 262 + 10 + 262 + 10 + 262 + 10 + 262 + 10 + 262 + 10 + 262 + 10 + 262 + 10 ≤ ms then (xlet (N320 + 1) fun N332 => xlet (va_up K321 N320 (0, 4)) fun K333 => xlet (va_up I323 N320 (fun _ => 0)) fun I334 => xlet (va_up J324 N320 (fun _ => 0)) fun J335 => xlet (va_up F328 N320 (fun _ => none)) fun F336 => if 0 + (12 : Int32).toNatClampNeg + 6 + 160 + 4 + 4500 + 4 + 2304 + 4 + 192 + 2 + 64 + 2 + 64 + 2 + 64 + 2 + 64 + 10 + 262 + 10 + 262 + 10 + 262 + 10 + 262 + 10 + 262 + 10 + 262 + 10 + 262 + 10 + 262 + 10 + 262 + 10 + 262 + 10 + 262 + 10 + 262 ≤ ms then (xb (m4_init 262 N332 K333 F336 I334 J335 N320) fun (N338, K339, F340, I341, J342) => if q330 < N338 ∧ (K339 q330).1 = 4 ∧ xinb (11 : Int32) (K339 q330).2 then (if N320 < N338 ∧ K339 N320 = (0, 4) then (xlet (xu F340 q330 ((11 : Int32).toNatClampNeg) (some N320)) fun F346 => some (N338, K339, F346, I341, J342)) else none) else none) else none) else none) else none) else none) else none) else none) else none) else none) else none) else none) else none) else none) else none) else none) else none) else none) else none) else none) else none) else none) else none) else none) else none) else none) else none) else none) else none) else none) else none) else none) else none) else none) else none) else none) else none) else none) else none) else none) else none) else none) else none) else none) else none) else none) else none) else none) else none) else none) else none) else none) else none) else none) else none) else none) else none) else none) else none) else none) else none) else none) else none) else none) else none) else none) else none) else none) else none) else none) else none) else none) else none) else none) else none) else none) else none) else none) else none) else none) else none) else none) else none) else none) else none) else none) else none
set_option maxRecDepth 100000 in
set_option maxHeartbeats 4000000 in
theorem c_m0_init {l : Launch} {B d ms : Nat} {g : xG} {N : Nat} {K : Nat → Nat × Nat} {F : Nat → Nat → Option Nat} {I : (Nat → Nat → Int32)} {J : (Nat → Nat → Int64)} {a0 : Nat} {N' : Nat} {K' : (Nat → Nat × Nat)} {F' : (Nat → Nat → Option Nat)} {I' : (Nat → Nat → Int32)} {J' : (Nat → Nat → Int64)} (h : m0_init ms N K F I J a0 = some (N', K', F', I', J')) : xC l g B (d + 3) 122 ms y0_init c0_init 2 none [.ref (B + a0)] (xP g B N K I J F) (xq none (xP g B N' K' I' J' F')) := by
  refine xC_of (by decide) (Nat.le_of_ble_eq_true rfl) (fun X hl hR hr hnm hX => ?_)
  refine x_sub (L' := [(0, .ref (B + a0))]) [0] rfl ?_
  unfold m0_init at h
  refine x_aload_n hX d0_init_0 rfl rfl ?_
  refine x_objInit hX hR kM0_1 kNobj kDobj (Nat.le_of_ble_eq_true rfl) d0_init_1 ?_
  refine x_aload_n hX d0_init_4 rfl rfl ?_
  refine x_bipush (v := 12) hX d0_init_5 (by decide) ?_
  obtain ⟨hg1, h⟩ := x_gd h
  obtain ⟨hg2, h⟩ := x_gd h
  obtain ⟨hg3, h⟩ := x_gd h
  refine x_newR (t := 0) hX kL0_9 kO_table rfl hg1 rfl hg2 (by rw [hR]; exact Nat.le_of_ble_eq_true rfl) (by rw [hR]; exact hg3) d0_init_7 ?_
  obtain ⟨N4, eN4, h⟩ := x_le h
  rw [← eN4]
  obtain ⟨K5, eK5, h⟩ := x_le h
  rw [← eK5]
  obtain ⟨I6, eI6, h⟩ := x_le h
  rw [← eI6]
  obtain ⟨J7, eJ7, h⟩ := x_le h
  rw [← eJ7]
  obtain ⟨F8, eF8, h⟩ := x_le h
  rw [← eF8]
  obtain ⟨hg9, h⟩ := x_gd h
  refine x_putF (j := 0) hX xc0 hg9.1 hg9.2 (by decide) rfl kF0_11 (Or.inr ⟨hnm, rfl, rfl⟩) rfl rfl d0_init_10 ?_
  obtain ⟨F10, eF10, h⟩ := x_le h
  rw [← eF10]
  refine x_aload_n hX d0_init_13 rfl rfl ?_
  refine x_iconst (v := 0) hX d0_init_14 (by decide) ?_
  refine x_putI (j := 1) hX xc0 hg9.1 hg9.2 (by decide) rfl kF0_15 (Or.inl rfl) rfl rfl d0_init_15 ?_
  obtain ⟨I11, eI11, h⟩ := x_le h
  rw [← eI11]
  refine x_aload_n hX d0_init_18 rfl rfl ?_
  obtain ⟨hg12, h⟩ := x_gd h
  refine x_new hX xc1 kL0_19 kT1 kI1 (by rw [hR]; exact Nat.le_of_ble_eq_true rfl) (by rw [hR]; exact hg12) d0_init_19 ?_
  obtain ⟨N13, eN13, h⟩ := x_le h
  rw [← eN13]
  obtain ⟨K14, eK14, h⟩ := x_le h
  rw [← eK14]
  obtain ⟨I15, eI15, h⟩ := x_le h
  rw [← eI15]
  obtain ⟨J16, eJ16, h⟩ := x_le h
  rw [← eJ16]
  obtain ⟨F17, eF17, h⟩ := x_le h
  rw [← eF17]
  refine x_dup hX d0_init_22 rfl ?_
  obtain ⟨hg18, h⟩ := x_gd h
  obtain ⟨⟨N19, K20, F21, I22, J23⟩, eb24, h⟩ := x_bd h
  dsimp only at h
  refine x_callIN hX hR (c_m1_init (l := x_l X) (d := d + 1) eb24) kX0_21 kN1_init rfl rfl rfl (Nat.le_of_ble_eq_true rfl) ⟨Nat.le_of_ble_eq_true rfl, hg18⟩ d0_init_23 (x_kkv ?_)
  obtain ⟨hg25, h⟩ := x_gd h
  refine x_putF (j := 2) hX xc0 hg25.1 hg25.2 (by decide) rfl kF0_22 (Or.inr ⟨hnm, rfl, rfl⟩) rfl rfl d0_init_26 ?_
  obtain ⟨F26, eF26, h⟩ := x_le h
  rw [← eF26]
  refine x_aload_n hX d0_init_29 rfl rfl ?_
  obtain ⟨hg27, h⟩ := x_gd h
  refine x_new hX xc2 kL0_26 kT2 kI2 (by rw [hR]; exact Nat.le_of_ble_eq_true rfl) (by rw [hR]; exact hg27) d0_init_30 ?_
  obtain ⟨N28, eN28, h⟩ := x_le h
  rw [← eN28]
  obtain ⟨K29, eK29, h⟩ := x_le h
  rw [← eK29]
  obtain ⟨I30, eI30, h⟩ := x_le h
  rw [← eI30]
  obtain ⟨J31, eJ31, h⟩ := x_le h
  rw [← eJ31]
  obtain ⟨F32, eF32, h⟩ := x_le h
  rw [← eF32]
  refine x_dup hX d0_init_33 rfl ?_
  refine x_sipush (v := 1500) hX d0_init_34 (by decide) ?_
  obtain ⟨hg33, h⟩ := x_gd h
  obtain ⟨⟨N34, K35, F36, I37, J38⟩, eb39, h⟩ := x_bd h
  dsimp only at h
  refine x_callI hX hR (c_m2_init (l := x_l X) (d := d + 1) eb39) kX0_28 kN2_init rfl rfl rfl (Nat.le_of_ble_eq_true rfl) ⟨Nat.le_of_ble_eq_true rfl, hg33⟩ d0_init_37 (x_kkv ?_)
  obtain ⟨hg40, h⟩ := x_gd h
  refine x_putF (j := 3) hX xc0 hg40.1 hg40.2 (by decide) rfl kF0_31 (Or.inr ⟨hnm, rfl, rfl⟩) rfl rfl d0_init_40 ?_
  obtain ⟨F41, eF41, h⟩ := x_le h
  rw [← eF41]
  refine x_aload_n hX d0_init_43 rfl rfl ?_
  obtain ⟨hg42, h⟩ := x_gd h
  refine x_new hX xc2 kL0_26 kT2 kI2 (by rw [hR]; exact Nat.le_of_ble_eq_true rfl) (by rw [hR]; exact hg42) d0_init_44 ?_
  obtain ⟨N43, eN43, h⟩ := x_le h
  rw [← eN43]
  obtain ⟨K44, eK44, h⟩ := x_le h
  rw [← eK44]
  obtain ⟨I45, eI45, h⟩ := x_le h
  rw [← eI45]
  obtain ⟨J46, eJ46, h⟩ := x_le h
  rw [← eJ46]
  obtain ⟨F47, eF47, h⟩ := x_le h
  rw [← eF47]
  refine x_dup hX d0_init_47 rfl ?_
  refine x_sipush (v := 768) hX d0_init_48 (by decide) ?_
  obtain ⟨hg48, h⟩ := x_gd h
  obtain ⟨⟨N49, K50, F51, I52, J53⟩, eb54, h⟩ := x_bd h
  dsimp only at h
  refine x_callI hX hR (c_m2_init (l := x_l X) (d := d + 1) eb54) kX0_28 kN2_init rfl rfl rfl (Nat.le_of_ble_eq_true rfl) ⟨Nat.le_of_ble_eq_true rfl, hg48⟩ d0_init_51 (x_kkv ?_)
  obtain ⟨hg55, h⟩ := x_gd h
  refine x_putF (j := 4) hX xc0 hg55.1 hg55.2 (by decide) rfl kF0_35 (Or.inr ⟨hnm, rfl, rfl⟩) rfl rfl d0_init_54 ?_
  obtain ⟨F56, eF56, h⟩ := x_le h
  rw [← eF56]
  refine x_aload_n hX d0_init_57 rfl rfl ?_
  obtain ⟨hg57, h⟩ := x_gd h
  refine x_new hX xc2 kL0_26 kT2 kI2 (by rw [hR]; exact Nat.le_of_ble_eq_true rfl) (by rw [hR]; exact hg57) d0_init_58 ?_
  obtain ⟨N58, eN58, h⟩ := x_le h
  rw [← eN58]
  obtain ⟨K59, eK59, h⟩ := x_le h
  rw [← eK59]
  obtain ⟨I60, eI60, h⟩ := x_le h
  rw [← eI60]
  obtain ⟨J61, eJ61, h⟩ := x_le h
  rw [← eJ61]
  obtain ⟨F62, eF62, h⟩ := x_le h
  rw [← eF62]
  refine x_dup hX d0_init_61 rfl ?_
  refine x_bipush (v := 64) hX d0_init_62 (by decide) ?_
  obtain ⟨hg63, h⟩ := x_gd h
  obtain ⟨⟨N64, K65, F66, I67, J68⟩, eb69, h⟩ := x_bd h
  dsimp only at h
  refine x_callI hX hR (c_m2_init (l := x_l X) (d := d + 1) eb69) kX0_28 kN2_init rfl rfl rfl (Nat.le_of_ble_eq_true rfl) ⟨Nat.le_of_ble_eq_true rfl, hg63⟩ d0_init_64 (x_kkv ?_)
  obtain ⟨hg70, h⟩ := x_gd h
  refine x_putF (j := 5) hX xc0 hg70.1 hg70.2 (by decide) rfl kF0_38 (Or.inr ⟨hnm, rfl, rfl⟩) rfl rfl d0_init_67 ?_
  obtain ⟨F71, eF71, h⟩ := x_le h
  rw [← eF71]
  refine x_aload_n hX d0_init_70 rfl rfl ?_
  obtain ⟨hg72, h⟩ := x_gd h
  refine x_new hX xc3 kL0_41 kT3 kI3 (by rw [hR]; exact Nat.le_of_ble_eq_true rfl) (by rw [hR]; exact hg72) d0_init_71 ?_
  obtain ⟨N73, eN73, h⟩ := x_le h
  rw [← eN73]
  obtain ⟨K74, eK74, h⟩ := x_le h
  rw [← eK74]
  obtain ⟨I75, eI75, h⟩ := x_le h
  rw [← eI75]
  obtain ⟨J76, eJ76, h⟩ := x_le h
  rw [← eJ76]
  obtain ⟨F77, eF77, h⟩ := x_le h
  rw [← eF77]
  refine x_dup hX d0_init_74 rfl ?_
  obtain ⟨hg78, h⟩ := x_gd h
  obtain ⟨⟨N79, K80, F81, I82, J83⟩, eb84, h⟩ := x_bd h
  dsimp only at h
  refine x_callIN hX hR (c_m3_init (l := x_l X) (d := d + 1) eb84) kX0_43 kN3_init rfl rfl rfl (Nat.le_of_ble_eq_true rfl) ⟨Nat.le_of_ble_eq_true rfl, hg78⟩ d0_init_75 (x_kkv ?_)
  obtain ⟨hg85, h⟩ := x_gd h
  refine x_putF (j := 6) hX xc0 hg85.1 hg85.2 (by decide) rfl kF0_44 (Or.inr ⟨hnm, rfl, rfl⟩) rfl rfl d0_init_78 ?_
  obtain ⟨F86, eF86, h⟩ := x_le h
  rw [← eF86]
  refine x_aload_n hX d0_init_81 rfl rfl ?_
  obtain ⟨hg87, h⟩ := x_gd h
  refine x_new hX xc3 kL0_41 kT3 kI3 (by rw [hR]; exact Nat.le_of_ble_eq_true rfl) (by rw [hR]; exact hg87) d0_init_82 ?_
  obtain ⟨N88, eN88, h⟩ := x_le h
  rw [← eN88]
  obtain ⟨K89, eK89, h⟩ := x_le h
  rw [← eK89]
  obtain ⟨I90, eI90, h⟩ := x_le h
  rw [← eI90]
  obtain ⟨J91, eJ91, h⟩ := x_le h
  rw [← eJ91]
  obtain ⟨F92, eF92, h⟩ := x_le h
  rw [← eF92]
  refine x_dup hX d0_init_85 rfl ?_
  obtain ⟨hg93, h⟩ := x_gd h
  obtain ⟨⟨N94, K95, F96, I97, J98⟩, eb99, h⟩ := x_bd h
  dsimp only at h
  refine x_callIN hX hR (c_m3_init (l := x_l X) (d := d + 1) eb99) kX0_43 kN3_init rfl rfl rfl (Nat.le_of_ble_eq_true rfl) ⟨Nat.le_of_ble_eq_true rfl, hg93⟩ d0_init_86 (x_kkv ?_)
  obtain ⟨hg100, h⟩ := x_gd h
  refine x_putF (j := 7) hX xc0 hg100.1 hg100.2 (by decide) rfl kF0_48 (Or.inr ⟨hnm, rfl, rfl⟩) rfl rfl d0_init_89 ?_
  obtain ⟨F101, eF101, h⟩ := x_le h
  rw [← eF101]
  refine x_aload_n hX d0_init_92 rfl rfl ?_
  obtain ⟨hg102, h⟩ := x_gd h
  refine x_new hX xc3 kL0_41 kT3 kI3 (by rw [hR]; exact Nat.le_of_ble_eq_true rfl) (by rw [hR]; exact hg102) d0_init_93 ?_
  obtain ⟨N103, eN103, h⟩ := x_le h
  rw [← eN103]
  obtain ⟨K104, eK104, h⟩ := x_le h
  rw [← eK104]
  obtain ⟨I105, eI105, h⟩ := x_le h
  rw [← eI105]
  obtain ⟨J106, eJ106, h⟩ := x_le h
  rw [← eJ106]
  obtain ⟨F107, eF107, h⟩ := x_le h
  rw [← eF107]
  refine x_dup hX d0_init_96 rfl ?_
  obtain ⟨hg108, h⟩ := x_gd h
  obtain ⟨⟨N109, K110, F111, I112, J113⟩, eb114, h⟩ := x_bd h
  dsimp only at h
  refine x_callIN hX hR (c_m3_init (l := x_l X) (d := d + 1) eb114) kX0_43 kN3_init rfl rfl rfl (Nat.le_of_ble_eq_true rfl) ⟨Nat.le_of_ble_eq_true rfl, hg108⟩ d0_init_97 (x_kkv ?_)
  obtain ⟨hg115, h⟩ := x_gd h
  refine x_putF (j := 8) hX xc0 hg115.1 hg115.2 (by decide) rfl kF0_51 (Or.inr ⟨hnm, rfl, rfl⟩) rfl rfl d0_init_100 ?_
  obtain ⟨F116, eF116, h⟩ := x_le h
  rw [← eF116]
  refine x_aload_n hX d0_init_103 rfl rfl ?_
  obtain ⟨hg117, h⟩ := x_gd h
  refine x_new hX xc3 kL0_41 kT3 kI3 (by rw [hR]; exact Nat.le_of_ble_eq_true rfl) (by rw [hR]; exact hg117) d0_init_104 ?_
  obtain ⟨N118, eN118, h⟩ := x_le h
  rw [← eN118]
  obtain ⟨K119, eK119, h⟩ := x_le h
  rw [← eK119]
  obtain ⟨I120, eI120, h⟩ := x_le h
  rw [← eI120]
  obtain ⟨J121, eJ121, h⟩ := x_le h
  rw [← eJ121]
  obtain ⟨F122, eF122, h⟩ := x_le h
  rw [← eF122]
  refine x_dup hX d0_init_107 rfl ?_
  obtain ⟨hg123, h⟩ := x_gd h
  obtain ⟨⟨N124, K125, F126, I127, J128⟩, eb129, h⟩ := x_bd h
  dsimp only at h
  refine x_callIN hX hR (c_m3_init (l := x_l X) (d := d + 1) eb129) kX0_43 kN3_init rfl rfl rfl (Nat.le_of_ble_eq_true rfl) ⟨Nat.le_of_ble_eq_true rfl, hg123⟩ d0_init_108 (x_kkv ?_)
  obtain ⟨hg130, h⟩ := x_gd h
  refine x_putF (j := 9) hX xc0 hg130.1 hg130.2 (by decide) rfl kF0_54 (Or.inr ⟨hnm, rfl, rfl⟩) rfl rfl d0_init_111 ?_
  obtain ⟨F131, eF131, h⟩ := x_le h
  rw [← eF131]
  refine x_iconst (v := 0) hX d0_init_114 (by decide) ?_
  refine x_istore_n hX [(1, .int (0 : Int32)), (0, .ref (B + a0))] d0_init_115 rfl (by decide) rfl ?_
  refine x_iload_n hX d0_init_116 rfl rfl ?_
  refine x_bipush (v := 12) hX d0_init_117 (by decide) ?_
  refine x_icmp_ge (tgt := 141) hX d0_init_119 (by decide) (fun hc => absurd hc (by decide)) (fun hc => ?_)
  refine x_aload_n hX d0_init_122 rfl rfl ?_
  obtain ⟨q132, eq132, h⟩ := x_bd h
  refine x_getF (j := 0) hX xc0 hg130.1 hg130.2 (by decide) rfl eq132 kF0_11 d0_init_123 ?_
  refine x_iload_n hX d0_init_126 rfl rfl ?_
  obtain ⟨hg133, h⟩ := x_gd h
  refine x_new hX xc4 kL0_9 kT4 kI4 (by rw [hR]; exact Nat.le_of_ble_eq_true rfl) (by rw [hR]; exact hg133) d0_init_127 ?_
  obtain ⟨N134, eN134, h⟩ := x_le h
  rw [← eN134]
  obtain ⟨K135, eK135, h⟩ := x_le h
  rw [← eK135]
  obtain ⟨I136, eI136, h⟩ := x_le h
  rw [← eI136]
  obtain ⟨J137, eJ137, h⟩ := x_le h
  rw [← eJ137]
  obtain ⟨F138, eF138, h⟩ := x_le h
  rw [← eF138]
  refine x_dup hX d0_init_130 rfl ?_
  obtain ⟨hg139, h⟩ := x_gd h
  obtain ⟨⟨N140, K141, F142, I143, J144⟩, eb145, h⟩ := x_bd h
  dsimp only at h
  refine x_callIN hX hR (c_m4_init (l := x_l X) (d := d + 0) eb145) kX0_57 kN4_init rfl rfl rfl (Nat.le_of_ble_eq_true rfl) ⟨Nat.le_of_ble_eq_true rfl, hg139⟩ d0_init_131 (x_kkv ?_)
  obtain ⟨hg146, h⟩ := x_gd h
  obtain ⟨hg147, h⟩ := x_gd h
  refine x_aast (t := 0) hX xc4 hg146.1 (x_kd hg146.2.1) rfl (x_in hg146.2.2) hg147.1 hg147.2 d0_init_134 ?_
  obtain ⟨F148, eF148, h⟩ := x_le h
  rw [← eF148]
  refine x_iinc (j := 0) hX [(1, .int (1 : Int32)), (0, .ref (B + a0))] d0_init_135 rfl (by decide) (by decide) rfl ?_
  refine x_goto (tgt := 116) hX d0_init_138 (by decide) ?_
  refine x_iload_n hX d0_init_116 rfl rfl ?_
  refine x_bipush (v := 12) hX d0_init_117 (by decide) ?_
  refine x_icmp_ge (tgt := 141) hX d0_init_119 (by decide) (fun hc => absurd hc (by decide)) (fun hc => ?_)
  refine x_aload_n hX d0_init_122 rfl rfl ?_
  obtain ⟨hg149, h⟩ := x_gd h
  obtain ⟨q150, eq150, h⟩ := x_bd h
  refine x_getF (j := 0) hX xc0 hg149.1 hg149.2 (by decide) rfl eq150 kF0_11 d0_init_123 ?_
  refine x_iload_n hX d0_init_126 rfl rfl ?_
  obtain ⟨hg151, h⟩ := x_gd h
  refine x_new hX xc4 kL0_9 kT4 kI4 (by rw [hR]; exact Nat.le_of_ble_eq_true rfl) (by rw [hR]; exact hg151) d0_init_127 ?_
  obtain ⟨N152, eN152, h⟩ := x_le h
  rw [← eN152]
  obtain ⟨K153, eK153, h⟩ := x_le h
  rw [← eK153]
  obtain ⟨I154, eI154, h⟩ := x_le h
  rw [← eI154]
  obtain ⟨J155, eJ155, h⟩ := x_le h
  rw [← eJ155]
  obtain ⟨F156, eF156, h⟩ := x_le h
  rw [← eF156]
  refine x_dup hX d0_init_130 rfl ?_
  obtain ⟨hg157, h⟩ := x_gd h
  obtain ⟨⟨N158, K159, F160, I161, J162⟩, eb163, h⟩ := x_bd h
  dsimp only at h
  refine x_callIN hX hR (c_m4_init (l := x_l X) (d := d + 0) eb163) kX0_57 kN4_init rfl rfl rfl (Nat.le_of_ble_eq_true rfl) ⟨Nat.le_of_ble_eq_true rfl, hg157⟩ d0_init_131 (x_kkv ?_)
  obtain ⟨hg164, h⟩ := x_gd h
  obtain ⟨hg165, h⟩ := x_gd h
  refine x_aast (t := 0) hX xc4 hg164.1 (x_kd hg164.2.1) rfl (x_in hg164.2.2) hg165.1 hg165.2 d0_init_134 ?_
  obtain ⟨F166, eF166, h⟩ := x_le h
  rw [← eF166]
  refine x_iinc (j := 0) hX [(1, .int (2 : Int32)), (0, .ref (B + a0))] d0_init_135 rfl (by decide) (by decide) rfl ?_
  refine x_goto (tgt := 116) hX d0_init_138 (by decide) ?_
  refine x_iload_n hX d0_init_116 rfl rfl ?_
  refine x_bipush (v := 12) hX d0_init_117 (by decide) ?_
  refine x_icmp_ge (tgt := 141) hX d0_init_119 (by decide) (fun hc => absurd hc (by decide)) (fun hc => ?_)
  refine x_aload_n hX d0_init_122 rfl rfl ?_
  obtain ⟨hg167, h⟩ := x_gd h
  obtain ⟨q168, eq168, h⟩ := x_bd h
  refine x_getF (j := 0) hX xc0 hg167.1 hg167.2 (by decide) rfl eq168 kF0_11 d0_init_123 ?_
  refine x_iload_n hX d0_init_126 rfl rfl ?_
  obtain ⟨hg169, h⟩ := x_gd h
  refine x_new hX xc4 kL0_9 kT4 kI4 (by rw [hR]; exact Nat.le_of_ble_eq_true rfl) (by rw [hR]; exact hg169) d0_init_127 ?_
  obtain ⟨N170, eN170, h⟩ := x_le h
  rw [← eN170]
  obtain ⟨K171, eK171, h⟩ := x_le h
  rw [← eK171]
  obtain ⟨I172, eI172, h⟩ := x_le h
  rw [← eI172]
  obtain ⟨J173, eJ173, h⟩ := x_le h
  rw [← eJ173]
  obtain ⟨F174, eF174, h⟩ := x_le h
  rw [← eF174]
  refine x_dup hX d0_init_130 rfl ?_
  obtain ⟨hg175, h⟩ := x_gd h
  obtain ⟨⟨N176, K177, F178, I179, J180⟩, eb181, h⟩ := x_bd h
  dsimp only at h
  refine x_callIN hX hR (c_m4_init (l := x_l X) (d := d + 0) eb181) kX0_57 kN4_init rfl rfl rfl (Nat.le_of_ble_eq_true rfl) ⟨Nat.le_of_ble_eq_true rfl, hg175⟩ d0_init_131 (x_kkv ?_)
  obtain ⟨hg182, h⟩ := x_gd h
  obtain ⟨hg183, h⟩ := x_gd h
  refine x_aast (t := 0) hX xc4 hg182.1 (x_kd hg182.2.1) rfl (x_in hg182.2.2) hg183.1 hg183.2 d0_init_134 ?_
  obtain ⟨F184, eF184, h⟩ := x_le h
  rw [← eF184]
  refine x_iinc (j := 0) hX [(1, .int (3 : Int32)), (0, .ref (B + a0))] d0_init_135 rfl (by decide) (by decide) rfl ?_
  refine x_goto (tgt := 116) hX d0_init_138 (by decide) ?_
  refine x_iload_n hX d0_init_116 rfl rfl ?_
  refine x_bipush (v := 12) hX d0_init_117 (by decide) ?_
  refine x_icmp_ge (tgt := 141) hX d0_init_119 (by decide) (fun hc => absurd hc (by decide)) (fun hc => ?_)
  refine x_aload_n hX d0_init_122 rfl rfl ?_
  obtain ⟨hg185, h⟩ := x_gd h
  obtain ⟨q186, eq186, h⟩ := x_bd h
  refine x_getF (j := 0) hX xc0 hg185.1 hg185.2 (by decide) rfl eq186 kF0_11 d0_init_123 ?_
  refine x_iload_n hX d0_init_126 rfl rfl ?_
  obtain ⟨hg187, h⟩ := x_gd h
  refine x_new hX xc4 kL0_9 kT4 kI4 (by rw [hR]; exact Nat.le_of_ble_eq_true rfl) (by rw [hR]; exact hg187) d0_init_127 ?_
  obtain ⟨N188, eN188, h⟩ := x_le h
  rw [← eN188]
  obtain ⟨K189, eK189, h⟩ := x_le h
  rw [← eK189]
  obtain ⟨I190, eI190, h⟩ := x_le h
  rw [← eI190]
  obtain ⟨J191, eJ191, h⟩ := x_le h
  rw [← eJ191]
  obtain ⟨F192, eF192, h⟩ := x_le h
  rw [← eF192]
  refine x_dup hX d0_init_130 rfl ?_
  obtain ⟨hg193, h⟩ := x_gd h
  obtain ⟨⟨N194, K195, F196, I197, J198⟩, eb199, h⟩ := x_bd h
  dsimp only at h
  refine x_callIN hX hR (c_m4_init (l := x_l X) (d := d + 0) eb199) kX0_57 kN4_init rfl rfl rfl (Nat.le_of_ble_eq_true rfl) ⟨Nat.le_of_ble_eq_true rfl, hg193⟩ d0_init_131 (x_kkv ?_)
  obtain ⟨hg200, h⟩ := x_gd h
  obtain ⟨hg201, h⟩ := x_gd h
  refine x_aast (t := 0) hX xc4 hg200.1 (x_kd hg200.2.1) rfl (x_in hg200.2.2) hg201.1 hg201.2 d0_init_134 ?_
  obtain ⟨F202, eF202, h⟩ := x_le h
  rw [← eF202]
  refine x_iinc (j := 0) hX [(1, .int (4 : Int32)), (0, .ref (B + a0))] d0_init_135 rfl (by decide) (by decide) rfl ?_
  refine x_goto (tgt := 116) hX d0_init_138 (by decide) ?_
  refine x_iload_n hX d0_init_116 rfl rfl ?_
  refine x_bipush (v := 12) hX d0_init_117 (by decide) ?_
  refine x_icmp_ge (tgt := 141) hX d0_init_119 (by decide) (fun hc => absurd hc (by decide)) (fun hc => ?_)
  refine x_aload_n hX d0_init_122 rfl rfl ?_
  obtain ⟨hg203, h⟩ := x_gd h
  obtain ⟨q204, eq204, h⟩ := x_bd h
  refine x_getF (j := 0) hX xc0 hg203.1 hg203.2 (by decide) rfl eq204 kF0_11 d0_init_123 ?_
  refine x_iload_n hX d0_init_126 rfl rfl ?_
  obtain ⟨hg205, h⟩ := x_gd h
  refine x_new hX xc4 kL0_9 kT4 kI4 (by rw [hR]; exact Nat.le_of_ble_eq_true rfl) (by rw [hR]; exact hg205) d0_init_127 ?_
  obtain ⟨N206, eN206, h⟩ := x_le h
  rw [← eN206]
  obtain ⟨K207, eK207, h⟩ := x_le h
  rw [← eK207]
  obtain ⟨I208, eI208, h⟩ := x_le h
  rw [← eI208]
  obtain ⟨J209, eJ209, h⟩ := x_le h
  rw [← eJ209]
  obtain ⟨F210, eF210, h⟩ := x_le h
  rw [← eF210]
  refine x_dup hX d0_init_130 rfl ?_
  obtain ⟨hg211, h⟩ := x_gd h
  obtain ⟨⟨N212, K213, F214, I215, J216⟩, eb217, h⟩ := x_bd h
  dsimp only at h
  refine x_callIN hX hR (c_m4_init (l := x_l X) (d := d + 0) eb217) kX0_57 kN4_init rfl rfl rfl (Nat.le_of_ble_eq_true rfl) ⟨Nat.le_of_ble_eq_true rfl, hg211⟩ d0_init_131 (x_kkv ?_)
  obtain ⟨hg218, h⟩ := x_gd h
  obtain ⟨hg219, h⟩ := x_gd h
  refine x_aast (t := 0) hX xc4 hg218.1 (x_kd hg218.2.1) rfl (x_in hg218.2.2) hg219.1 hg219.2 d0_init_134 ?_
  obtain ⟨F220, eF220, h⟩ := x_le h
  rw [← eF220]
  refine x_iinc (j := 0) hX [(1, .int (5 : Int32)), (0, .ref (B + a0))] d0_init_135 rfl (by decide) (by decide) rfl ?_
  refine x_goto (tgt := 116) hX d0_init_138 (by decide) ?_
  refine x_iload_n hX d0_init_116 rfl rfl ?_
  refine x_bipush (v := 12) hX d0_init_117 (by decide) ?_
  refine x_icmp_ge (tgt := 141) hX d0_init_119 (by decide) (fun hc => absurd hc (by decide)) (fun hc => ?_)
  refine x_aload_n hX d0_init_122 rfl rfl ?_
  obtain ⟨hg221, h⟩ := x_gd h
  obtain ⟨q222, eq222, h⟩ := x_bd h
  refine x_getF (j := 0) hX xc0 hg221.1 hg221.2 (by decide) rfl eq222 kF0_11 d0_init_123 ?_
  refine x_iload_n hX d0_init_126 rfl rfl ?_
  obtain ⟨hg223, h⟩ := x_gd h
  refine x_new hX xc4 kL0_9 kT4 kI4 (by rw [hR]; exact Nat.le_of_ble_eq_true rfl) (by rw [hR]; exact hg223) d0_init_127 ?_
  obtain ⟨N224, eN224, h⟩ := x_le h
  rw [← eN224]
  obtain ⟨K225, eK225, h⟩ := x_le h
  rw [← eK225]
  obtain ⟨I226, eI226, h⟩ := x_le h
  rw [← eI226]
  obtain ⟨J227, eJ227, h⟩ := x_le h
  rw [← eJ227]
  obtain ⟨F228, eF228, h⟩ := x_le h
  rw [← eF228]
  refine x_dup hX d0_init_130 rfl ?_
  obtain ⟨hg229, h⟩ := x_gd h
  obtain ⟨⟨N230, K231, F232, I233, J234⟩, eb235, h⟩ := x_bd h
  dsimp only at h
  refine x_callIN hX hR (c_m4_init (l := x_l X) (d := d + 0) eb235) kX0_57 kN4_init rfl rfl rfl (Nat.le_of_ble_eq_true rfl) ⟨Nat.le_of_ble_eq_true rfl, hg229⟩ d0_init_131 (x_kkv ?_)
  obtain ⟨hg236, h⟩ := x_gd h
  obtain ⟨hg237, h⟩ := x_gd h
  refine x_aast (t := 0) hX xc4 hg236.1 (x_kd hg236.2.1) rfl (x_in hg236.2.2) hg237.1 hg237.2 d0_init_134 ?_
  obtain ⟨F238, eF238, h⟩ := x_le h
  rw [← eF238]
  refine x_iinc (j := 0) hX [(1, .int (6 : Int32)), (0, .ref (B + a0))] d0_init_135 rfl (by decide) (by decide) rfl ?_
  refine x_goto (tgt := 116) hX d0_init_138 (by decide) ?_
  refine x_iload_n hX d0_init_116 rfl rfl ?_
  refine x_bipush (v := 12) hX d0_init_117 (by decide) ?_
  refine x_icmp_ge (tgt := 141) hX d0_init_119 (by decide) (fun hc => absurd hc (by decide)) (fun hc => ?_)
  refine x_aload_n hX d0_init_122 rfl rfl ?_
  obtain ⟨hg239, h⟩ := x_gd h
  obtain ⟨q240, eq240, h⟩ := x_bd h
  refine x_getF (j := 0) hX xc0 hg239.1 hg239.2 (by decide) rfl eq240 kF0_11 d0_init_123 ?_
  refine x_iload_n hX d0_init_126 rfl rfl ?_
  obtain ⟨hg241, h⟩ := x_gd h
  refine x_new hX xc4 kL0_9 kT4 kI4 (by rw [hR]; exact Nat.le_of_ble_eq_true rfl) (by rw [hR]; exact hg241) d0_init_127 ?_
  obtain ⟨N242, eN242, h⟩ := x_le h
  rw [← eN242]
  obtain ⟨K243, eK243, h⟩ := x_le h
  rw [← eK243]
  obtain ⟨I244, eI244, h⟩ := x_le h
  rw [← eI244]
  obtain ⟨J245, eJ245, h⟩ := x_le h
  rw [← eJ245]
  obtain ⟨F246, eF246, h⟩ := x_le h
  rw [← eF246]
  refine x_dup hX d0_init_130 rfl ?_
  obtain ⟨hg247, h⟩ := x_gd h
  obtain ⟨⟨N248, K249, F250, I251, J252⟩, eb253, h⟩ := x_bd h
  dsimp only at h
  refine x_callIN hX hR (c_m4_init (l := x_l X) (d := d + 0) eb253) kX0_57 kN4_init rfl rfl rfl (Nat.le_of_ble_eq_true rfl) ⟨Nat.le_of_ble_eq_true rfl, hg247⟩ d0_init_131 (x_kkv ?_)
  obtain ⟨hg254, h⟩ := x_gd h
  obtain ⟨hg255, h⟩ := x_gd h
  refine x_aast (t := 0) hX xc4 hg254.1 (x_kd hg254.2.1) rfl (x_in hg254.2.2) hg255.1 hg255.2 d0_init_134 ?_
  obtain ⟨F256, eF256, h⟩ := x_le h
  rw [← eF256]
  refine x_iinc (j := 0) hX [(1, .int (7 : Int32)), (0, .ref (B + a0))] d0_init_135 rfl (by decide) (by decide) rfl ?_
  refine x_goto (tgt := 116) hX d0_init_138 (by decide) ?_
  refine x_iload_n hX d0_init_116 rfl rfl ?_
  refine x_bipush (v := 12) hX d0_init_117 (by decide) ?_
  refine x_icmp_ge (tgt := 141) hX d0_init_119 (by decide) (fun hc => absurd hc (by decide)) (fun hc => ?_)
  refine x_aload_n hX d0_init_122 rfl rfl ?_
  obtain ⟨hg257, h⟩ := x_gd h
  obtain ⟨q258, eq258, h⟩ := x_bd h
  refine x_getF (j := 0) hX xc0 hg257.1 hg257.2 (by decide) rfl eq258 kF0_11 d0_init_123 ?_
  refine x_iload_n hX d0_init_126 rfl rfl ?_
  obtain ⟨hg259, h⟩ := x_gd h
  refine x_new hX xc4 kL0_9 kT4 kI4 (by rw [hR]; exact Nat.le_of_ble_eq_true rfl) (by rw [hR]; exact hg259) d0_init_127 ?_
  obtain ⟨N260, eN260, h⟩ := x_le h
  rw [← eN260]
  obtain ⟨K261, eK261, h⟩ := x_le h
  rw [← eK261]
  obtain ⟨I262, eI262, h⟩ := x_le h
  rw [← eI262]
  obtain ⟨J263, eJ263, h⟩ := x_le h
  rw [← eJ263]
  obtain ⟨F264, eF264, h⟩ := x_le h
  rw [← eF264]
  refine x_dup hX d0_init_130 rfl ?_
  obtain ⟨hg265, h⟩ := x_gd h
  obtain ⟨⟨N266, K267, F268, I269, J270⟩, eb271, h⟩ := x_bd h
  dsimp only at h
  refine x_callIN hX hR (c_m4_init (l := x_l X) (d := d + 0) eb271) kX0_57 kN4_init rfl rfl rfl (Nat.le_of_ble_eq_true rfl) ⟨Nat.le_of_ble_eq_true rfl, hg265⟩ d0_init_131 (x_kkv ?_)
  obtain ⟨hg272, h⟩ := x_gd h
  obtain ⟨hg273, h⟩ := x_gd h
  refine x_aast (t := 0) hX xc4 hg272.1 (x_kd hg272.2.1) rfl (x_in hg272.2.2) hg273.1 hg273.2 d0_init_134 ?_
  obtain ⟨F274, eF274, h⟩ := x_le h
  rw [← eF274]
  refine x_iinc (j := 0) hX [(1, .int (8 : Int32)), (0, .ref (B + a0))] d0_init_135 rfl (by decide) (by decide) rfl ?_
  refine x_goto (tgt := 116) hX d0_init_138 (by decide) ?_
  refine x_iload_n hX d0_init_116 rfl rfl ?_
  refine x_bipush (v := 12) hX d0_init_117 (by decide) ?_
  refine x_icmp_ge (tgt := 141) hX d0_init_119 (by decide) (fun hc => absurd hc (by decide)) (fun hc => ?_)
  refine x_aload_n hX d0_init_122 rfl rfl ?_
  obtain ⟨hg275, h⟩ := x_gd h
  obtain ⟨q276, eq276, h⟩ := x_bd h
  refine x_getF (j := 0) hX xc0 hg275.1 hg275.2 (by decide) rfl eq276 kF0_11 d0_init_123 ?_
  refine x_iload_n hX d0_init_126 rfl rfl ?_
  obtain ⟨hg277, h⟩ := x_gd h
  refine x_new hX xc4 kL0_9 kT4 kI4 (by rw [hR]; exact Nat.le_of_ble_eq_true rfl) (by rw [hR]; exact hg277) d0_init_127 ?_
  obtain ⟨N278, eN278, h⟩ := x_le h
  rw [← eN278]
  obtain ⟨K279, eK279, h⟩ := x_le h
  rw [← eK279]
  obtain ⟨I280, eI280, h⟩ := x_le h
  rw [← eI280]
  obtain ⟨J281, eJ281, h⟩ := x_le h
  rw [← eJ281]
  obtain ⟨F282, eF282, h⟩ := x_le h
  rw [← eF282]
  refine x_dup hX d0_init_130 rfl ?_
  obtain ⟨hg283, h⟩ := x_gd h
  obtain ⟨⟨N284, K285, F286, I287, J288⟩, eb289, h⟩ := x_bd h
  dsimp only at h
  refine x_callIN hX hR (c_m4_init (l := x_l X) (d := d + 0) eb289) kX0_57 kN4_init rfl rfl rfl (Nat.le_of_ble_eq_true rfl) ⟨Nat.le_of_ble_eq_true rfl, hg283⟩ d0_init_131 (x_kkv ?_)
  obtain ⟨hg290, h⟩ := x_gd h
  obtain ⟨hg291, h⟩ := x_gd h
  refine x_aast (t := 0) hX xc4 hg290.1 (x_kd hg290.2.1) rfl (x_in hg290.2.2) hg291.1 hg291.2 d0_init_134 ?_
  obtain ⟨F292, eF292, h⟩ := x_le h
  rw [← eF292]
  refine x_iinc (j := 0) hX [(1, .int (9 : Int32)), (0, .ref (B + a0))] d0_init_135 rfl (by decide) (by decide) rfl ?_
  refine x_goto (tgt := 116) hX d0_init_138 (by decide) ?_
  refine x_iload_n hX d0_init_116 rfl rfl ?_
  refine x_bipush (v := 12) hX d0_init_117 (by decide) ?_
  refine x_icmp_ge (tgt := 141) hX d0_init_119 (by decide) (fun hc => absurd hc (by decide)) (fun hc => ?_)
  refine x_aload_n hX d0_init_122 rfl rfl ?_
  obtain ⟨hg293, h⟩ := x_gd h
  obtain ⟨q294, eq294, h⟩ := x_bd h
  refine x_getF (j := 0) hX xc0 hg293.1 hg293.2 (by decide) rfl eq294 kF0_11 d0_init_123 ?_
  refine x_iload_n hX d0_init_126 rfl rfl ?_
  obtain ⟨hg295, h⟩ := x_gd h
  refine x_new hX xc4 kL0_9 kT4 kI4 (by rw [hR]; exact Nat.le_of_ble_eq_true rfl) (by rw [hR]; exact hg295) d0_init_127 ?_
  obtain ⟨N296, eN296, h⟩ := x_le h
  rw [← eN296]
  obtain ⟨K297, eK297, h⟩ := x_le h
  rw [← eK297]
  obtain ⟨I298, eI298, h⟩ := x_le h
  rw [← eI298]
  obtain ⟨J299, eJ299, h⟩ := x_le h
  rw [← eJ299]
  obtain ⟨F300, eF300, h⟩ := x_le h
  rw [← eF300]
  refine x_dup hX d0_init_130 rfl ?_
  obtain ⟨hg301, h⟩ := x_gd h
  obtain ⟨⟨N302, K303, F304, I305, J306⟩, eb307, h⟩ := x_bd h
  dsimp only at h
  refine x_callIN hX hR (c_m4_init (l := x_l X) (d := d + 0) eb307) kX0_57 kN4_init rfl rfl rfl (Nat.le_of_ble_eq_true rfl) ⟨Nat.le_of_ble_eq_true rfl, hg301⟩ d0_init_131 (x_kkv ?_)
  obtain ⟨hg308, h⟩ := x_gd h
  obtain ⟨hg309, h⟩ := x_gd h
  refine x_aast (t := 0) hX xc4 hg308.1 (x_kd hg308.2.1) rfl (x_in hg308.2.2) hg309.1 hg309.2 d0_init_134 ?_
  obtain ⟨F310, eF310, h⟩ := x_le h
  rw [← eF310]
  refine x_iinc (j := 0) hX [(1, .int (10 : Int32)), (0, .ref (B + a0))] d0_init_135 rfl (by decide) (by decide) rfl ?_
  refine x_goto (tgt := 116) hX d0_init_138 (by decide) ?_
  refine x_iload_n hX d0_init_116 rfl rfl ?_
  refine x_bipush (v := 12) hX d0_init_117 (by decide) ?_
  refine x_icmp_ge (tgt := 141) hX d0_init_119 (by decide) (fun hc => absurd hc (by decide)) (fun hc => ?_)
  refine x_aload_n hX d0_init_122 rfl rfl ?_
  obtain ⟨hg311, h⟩ := x_gd h
  obtain ⟨q312, eq312, h⟩ := x_bd h
  refine x_getF (j := 0) hX xc0 hg311.1 hg311.2 (by decide) rfl eq312 kF0_11 d0_init_123 ?_
  refine x_iload_n hX d0_init_126 rfl rfl ?_
  obtain ⟨hg313, h⟩ := x_gd h
  refine x_new hX xc4 kL0_9 kT4 kI4 (by rw [hR]; exact Nat.le_of_ble_eq_true rfl) (by rw [hR]; exact hg313) d0_init_127 ?_
  obtain ⟨N314, eN314, h⟩ := x_le h
  rw [← eN314]
  obtain ⟨K315, eK315, h⟩ := x_le h
  rw [← eK315]
  obtain ⟨I316, eI316, h⟩ := x_le h
  rw [← eI316]
  obtain ⟨J317, eJ317, h⟩ := x_le h
  rw [← eJ317]
  obtain ⟨F318, eF318, h⟩ := x_le h
  rw [← eF318]
  refine x_dup hX d0_init_130 rfl ?_
  obtain ⟨hg319, h⟩ := x_gd h
  obtain ⟨⟨N320, K321, F322, I323, J324⟩, eb325, h⟩ := x_bd h
  dsimp only at h
  refine x_callIN hX hR (c_m4_init (l := x_l X) (d := d + 0) eb325) kX0_57 kN4_init rfl rfl rfl (Nat.le_of_ble_eq_true rfl) ⟨Nat.le_of_ble_eq_true rfl, hg319⟩ d0_init_131 (x_kkv ?_)
  obtain ⟨hg326, h⟩ := x_gd h
  obtain ⟨hg327, h⟩ := x_gd h
  refine x_aast (t := 0) hX xc4 hg326.1 (x_kd hg326.2.1) rfl (x_in hg326.2.2) hg327.1 hg327.2 d0_init_134 ?_
  obtain ⟨F328, eF328, h⟩ := x_le h
  rw [← eF328]
  refine x_iinc (j := 0) hX [(1, .int (11 : Int32)), (0, .ref (B + a0))] d0_init_135 rfl (by decide) (by decide) rfl ?_
  refine x_goto (tgt := 116) hX d0_init_138 (by decide) ?_
  refine x_iload_n hX d0_init_116 rfl rfl ?_
  refine x_bipush (v := 12) hX d0_init_117 (by decide) ?_
  refine x_icmp_ge (tgt := 141) hX d0_init_119 (by decide) (fun hc => absurd hc (by decide)) (fun hc => ?_)
  refine x_aload_n hX d0_init_122 rfl rfl ?_
  obtain ⟨hg329, h⟩ := x_gd h
  obtain ⟨q330, eq330, h⟩ := x_bd h
  refine x_getF (j := 0) hX xc0 hg329.1 hg329.2 (by decide) rfl eq330 kF0_11 d0_init_123 ?_
  refine x_iload_n hX d0_init_126 rfl rfl ?_
  obtain ⟨hg331, h⟩ := x_gd h
  refine x_new hX xc4 kL0_9 kT4 kI4 (by rw [hR]; exact Nat.le_of_ble_eq_true rfl) (by rw [hR]; exact hg331) d0_init_127 ?_
  obtain ⟨N332, eN332, h⟩ := x_le h
  rw [← eN332]
  obtain ⟨K333, eK333, h⟩ := x_le h
  rw [← eK333]
  obtain ⟨I334, eI334, h⟩ := x_le h
  rw [← eI334]
  obtain ⟨J335, eJ335, h⟩ := x_le h
  rw [← eJ335]
  obtain ⟨F336, eF336, h⟩ := x_le h
  rw [← eF336]
  refine x_dup hX d0_init_130 rfl ?_
  obtain ⟨hg337, h⟩ := x_gd h
  obtain ⟨⟨N338, K339, F340, I341, J342⟩, eb343, h⟩ := x_bd h
  dsimp only at h
  refine x_callIN hX hR (c_m4_init (l := x_l X) (d := d + 0) eb343) kX0_57 kN4_init rfl rfl rfl (Nat.le_of_ble_eq_true rfl) ⟨Nat.le_of_ble_eq_true rfl, hg337⟩ d0_init_131 (x_kkv ?_)
  obtain ⟨hg344, h⟩ := x_gd h
  obtain ⟨hg345, h⟩ := x_gd h
  refine x_aast (t := 0) hX xc4 hg344.1 (x_kd hg344.2.1) rfl (x_in hg344.2.2) hg345.1 hg345.2 d0_init_134 ?_
  obtain ⟨F346, eF346, h⟩ := x_le h
  rw [← eF346]
  refine x_iinc (j := 0) hX [(1, .int (12 : Int32)), (0, .ref (B + a0))] d0_init_135 rfl (by decide) (by decide) rfl ?_
  refine x_goto (tgt := 116) hX d0_init_138 (by decide) ?_
  refine x_iload_n hX d0_init_116 rfl rfl ?_
  refine x_bipush (v := 12) hX d0_init_117 (by decide) ?_
  refine x_icmp_ge (tgt := 141) hX d0_init_119 (by decide) (fun hc => ?_) (fun hc => absurd hc (by decide))
  refine x_wide (a' := 122) (b' := ms) (Nat.le_of_ble_eq_true rfl) hg337 ?_
  cases h
  exact x_vret hX hr d0_init_141 (fun H hP => ⟨rfl, hP⟩)
