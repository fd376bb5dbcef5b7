/-! that the tables keep what is asked of them, by the kernel: printed -/
theorem pm_mok0 : pm_mok 0 = true := by decide +kernel
theorem pm_mok1 : pm_mok 1 = true := by decide +kernel
theorem pm_mok2 : pm_mok 2 = true := by decide +kernel
theorem pm_mok3 : pm_mok 3 = true := by decide +kernel
theorem pm_mok4 : pm_mok 4 = true := by decide +kernel
theorem pm_mok5 : pm_mok 5 = true := by decide +kernel
theorem pm_mok6 : pm_mok 6 = true := by decide +kernel
theorem pm_mok7 : pm_mok 7 = true := by decide +kernel
theorem pm_mok8 : pm_mok 8 = true := by decide +kernel
theorem pm_mok9 : pm_mok 9 = true := by decide +kernel
theorem pm_mok10 : pm_mok 10 = true := by decide +kernel
theorem pm_mok11 : pm_mok 11 = true := by decide +kernel
theorem pm_mok12 : pm_mok 12 = true := by decide +kernel
theorem pm_mok13 : pm_mok 13 = true := by decide +kernel
theorem pm_mok14 : pm_mok 14 = true := by decide +kernel
theorem pm_mok15 : pm_mok 15 = true := by decide +kernel
theorem pm_mok16 : pm_mok 16 = true := by decide +kernel
theorem pm_mok17 : pm_mok 17 = true := by decide +kernel
theorem pm_mok18 : pm_mok 18 = true := by decide +kernel
theorem pm_mok19 : pm_mok 19 = true := by decide +kernel
theorem pm_mok20 : pm_mok 20 = true := by decide +kernel
theorem pm_mok21 : pm_mok 21 = true := by decide +kernel
theorem pm_mok22 : pm_mok 22 = true := by decide +kernel
theorem pm_mok23 : pm_mok 23 = true := by decide +kernel
theorem pm_mok24 : pm_mok 24 = true := by decide +kernel
theorem pm_mok25 : pm_mok 25 = true := by decide +kernel
theorem pm_mok26 : pm_mok 26 = true := by decide +kernel
theorem pm_mok27 : pm_mok 27 = true := by decide +kernel
theorem pm_mok28 : pm_mok 28 = true := by decide +kernel
theorem pm_mok29 : pm_mok 29 = true := by decide +kernel
theorem pm_mok30 : pm_mok 30 = true := by decide +kernel
theorem pm_mok31 : pm_mok 31 = true := by decide +kernel
theorem pm_mok32 : pm_mok 32 = true := by decide +kernel
theorem pm_mok33 : pm_mok 33 = true := by decide +kernel
theorem pm_mok34 : pm_mok 34 = true := by decide +kernel
theorem pm_mok35 : pm_mok 35 = true := by decide +kernel
theorem pm_mok36 : pm_mok 36 = true := by decide +kernel
theorem pm_mok37 : pm_mok 37 = true := by decide +kernel
theorem pm_mok38 : pm_mok 38 = true := by decide +kernel
theorem pm_mok39 : pm_mok 39 = true := by decide +kernel
theorem pm_mok40 : pm_mok 40 = true := by decide +kernel
theorem pm_mok41 : pm_mok 41 = true := by decide +kernel
theorem pm_mok42 : pm_mok 42 = true := by decide +kernel
theorem pm_mok43 : pm_mok 43 = true := by decide +kernel
theorem pm_mok44 : pm_mok 44 = true := by decide +kernel
theorem pm_mok45 : pm_mok 45 = true := by decide +kernel
theorem pm_mok46 : pm_mok 46 = true := by decide +kernel
theorem pm_mok47 : pm_mok 47 = true := by decide +kernel
theorem pm_mok48 : pm_mok 48 = true := by decide +kernel
theorem pm_mok49 : pm_mok 49 = true := by decide +kernel
theorem pm_mok50 : pm_mok 50 = true := by decide +kernel
theorem pm_mok51 : pm_mok 51 = true := by decide +kernel
theorem pm_mok52 : pm_mok 52 = true := by decide +kernel
theorem pm_mok53 : pm_mok 53 = true := by decide +kernel
theorem pm_mok54 : pm_mok 54 = true := by decide +kernel
theorem pm_mok55 : pm_mok 55 = true := by decide +kernel
theorem pm_mok56 : pm_mok 56 = true := by decide +kernel
theorem pm_mok57 : pm_mok 57 = true := by decide +kernel
theorem pm_mok58 : pm_mok 58 = true := by decide +kernel
theorem pm_mok59 : pm_mok 59 = true := by decide +kernel
theorem pm_mok60 : pm_mok 60 = true := by decide +kernel
theorem pm_mok61 : pm_mok 61 = true := by decide +kernel
theorem pm_mok62 : pm_mok 62 = true := by decide +kernel
theorem pm_mok63 : pm_mok 63 = true := by decide +kernel
theorem pm_mok64 : pm_mok 64 = true := by decide +kernel
theorem pm_mok65 : pm_mok 65 = true := by decide +kernel
theorem pm_mok66 : pm_mok 66 = true := by decide +kernel
theorem pm_mok67 : pm_mok 67 = true := by decide +kernel
theorem pm_mok68 : pm_mok 68 = true := by decide +kernel
theorem pm_mok69 : pm_mok 69 = true := by decide +kernel
theorem pm_mok70 : pm_mok 70 = true := by decide +kernel
theorem pm_mok71 : pm_mok 71 = true := by decide +kernel
theorem pm_mok72 : pm_mok 72 = true := by decide +kernel
theorem pm_mok73 : pm_mok 73 = true := by decide +kernel
theorem pm_mok74 : pm_mok 74 = true := by decide +kernel
theorem pm_mok75 : pm_mok 75 = true := by decide +kernel
theorem pm_mok76 : pm_mok 76 = true := by decide +kernel
theorem pm_mok77 : pm_mok 77 = true := by decide +kernel
theorem pm_mok78 : pm_mok 78 = true := by decide +kernel
theorem pm_mok79 : pm_mok 79 = true := by decide +kernel
theorem pm_mok80 : pm_mok 80 = true := by decide +kernel
theorem pm_mok81 : pm_mok 81 = true := by decide +kernel
theorem pm_mok82 : pm_mok 82 = true := by decide +kernel
theorem pm_mok83 : pm_mok 83 = true := by decide +kernel
theorem pm_mok84 : pm_mok 84 = true := by decide +kernel
theorem pm_mok85 : pm_mok 85 = true := by decide +kernel
theorem pm_mok86 : pm_mok 86 = true := by decide +kernel
theorem pm_mok87 : pm_mok 87 = true := by decide +kernel
theorem pm_mok88 : pm_mok 88 = true := by decide +kernel
theorem pm_mok89 : pm_mok 89 = true := by decide +kernel
theorem pm_mok90 : pm_mok 90 = true := by decide +kernel
theorem pm_mok91 : pm_mok 91 = true := by decide +kernel
theorem pm_mok92 : pm_mok 92 = true := by decide +kernel
theorem pm_mok93 : pm_mok 93 = true := by decide +kernel
theorem pm_mok94 : pm_mok 94 = true := by decide +kernel
theorem pm_mok95 : pm_mok 95 = true := by decide +kernel
theorem pm_mok96 : pm_mok 96 = true := by decide +kernel
theorem pm_mok97 : pm_mok 97 = true := by decide +kernel
theorem pm_mok98 : pm_mok 98 = true := by decide +kernel
theorem pm_mok99 : pm_mok 99 = true := by decide +kernel
theorem pm_mok100 : pm_mok 100 = true := by decide +kernel
theorem pm_mok101 : pm_mok 101 = true := by decide +kernel
theorem pm_mok102 : pm_mok 102 = true := by decide +kernel
theorem pm_mok103 : pm_mok 103 = true := by decide +kernel
theorem pm_mok104 : pm_mok 104 = true := by decide +kernel
theorem pm_mok105 : pm_mok 105 = true := by decide +kernel
theorem pm_mok106 : pm_mok 106 = true := by decide +kernel
theorem pm_mok107 : pm_mok 107 = true := by decide +kernel
theorem pm_mok108 : pm_mok 108 = true := by decide +kernel
theorem pm_mok109 : pm_mok 109 = true := by decide +kernel
theorem pm_mok110 : pm_mok 110 = true := by decide +kernel
theorem pm_mok111 : pm_mok 111 = true := by decide +kernel
theorem pm_mok112 : pm_mok 112 = true := by decide +kernel
theorem pm_mok113 : pm_mok 113 = true := by decide +kernel
theorem pm_mok114 : pm_mok 114 = true := by decide +kernel
theorem pm_mok115 : pm_mok 115 = true := by decide +kernel
theorem pm_mok116 : pm_mok 116 = true := by decide +kernel
theorem pm_mok117 : pm_mok 117 = true := by decide +kernel
theorem pm_mok118 : pm_mok 118 = true := by decide +kernel
theorem pm_mok119 : pm_mok 119 = true := by decide +kernel
theorem pm_mok120 : pm_mok 120 = true := by decide +kernel
theorem pm_mok121 : pm_mok 121 = true := by decide +kernel
theorem pm_mok122 : pm_mok 122 = true := by decide +kernel
theorem pm_mok123 : pm_mok 123 = true := by decide +kernel
theorem pm_mok124 : pm_mok 124 = true := by decide +kernel
theorem pm_mok125 : pm_mok 125 = true := by decide +kernel
theorem pm_mok126 : pm_mok 126 = true := by decide +kernel
theorem pm_mok127 : pm_mok 127 = true := by decide +kernel
theorem pm_mok128 : pm_mok 128 = true := by decide +kernel
theorem pm_mok129 : pm_mok 129 = true := by decide +kernel
theorem pm_mok130 : pm_mok 130 = true := by decide +kernel
theorem pm_mok131 : pm_mok 131 = true := by decide +kernel
theorem pm_mok132 : pm_mok 132 = true := by decide +kernel
theorem pm_mok133 : pm_mok 133 = true := by decide +kernel
theorem pm_mok134 : pm_mok 134 = true := by decide +kernel
theorem pm_mok135 : pm_mok 135 = true := by decide +kernel
theorem pm_mok136 : pm_mok 136 = true := by decide +kernel
theorem pm_mok137 : pm_mok 137 = true := by decide +kernel
theorem pm_mok138 : pm_mok 138 = true := by decide +kernel
theorem pm_mok139 : pm_mok 139 = true := by decide +kernel
theorem pm_mok140 : pm_mok 140 = true := by decide +kernel
theorem pm_mok141 : pm_mok 141 = true := by decide +kernel
theorem pm_mok142 : pm_mok 142 = true := by decide +kernel
theorem pm_mok143 : pm_mok 143 = true := by decide +kernel
theorem pm_mok144 : pm_mok 144 = true := by decide +kernel
theorem pm_mok145 : pm_mok 145 = true := by decide +kernel
theorem pm_mok146 : pm_mok 146 = true := by decide +kernel
theorem pm_mok147 : pm_mok 147 = true := by decide +kernel
theorem pm_mok148 : pm_mok 148 = true := by decide +kernel
theorem pm_mok149 : pm_mok 149 = true := by decide +kernel
theorem pm_mok150 : pm_mok 150 = true := by decide +kernel
theorem pm_mok151 : pm_mok 151 = true := by decide +kernel
theorem pm_mok152 : pm_mok 152 = true := by decide +kernel
theorem pm_mok153 : pm_mok 153 = true := by decide +kernel
theorem pm_mok154 : pm_mok 154 = true := by decide +kernel
theorem pm_mok155 : pm_mok 155 = true := by decide +kernel
theorem pm_mok156 : pm_mok 156 = true := by decide +kernel
theorem pm_mok157 : pm_mok 157 = true := by decide +kernel
theorem pm_mok158 : pm_mok 158 = true := by decide +kernel
theorem pm_mok159 : pm_mok 159 = true := by decide +kernel
theorem pm_mok160 : pm_mok 160 = true := by decide +kernel
theorem pm_mok161 : pm_mok 161 = true := by decide +kernel
theorem pm_mok162 : pm_mok 162 = true := by decide +kernel
theorem pm_mok163 : pm_mok 163 = true := by decide +kernel
theorem pm_mok164 : pm_mok 164 = true := by decide +kernel
theorem pm_mok165 : pm_mok 165 = true := by decide +kernel
theorem pm_mok166 : pm_mok 166 = true := by decide +kernel
theorem pm_mok167 : pm_mok 167 = true := by decide +kernel
theorem pm_mok168 : pm_mok 168 = true := by decide +kernel
theorem pm_mok169 : pm_mok 169 = true := by decide +kernel
theorem pm_mok170 : pm_mok 170 = true := by decide +kernel
theorem pm_mok171 : pm_mok 171 = true := by decide +kernel
theorem pm_mok172 : pm_mok 172 = true := by decide +kernel
theorem pm_mok173 : pm_mok 173 = true := by decide +kernel
theorem pm_mok174 : pm_mok 174 = true := by decide +kernel
theorem pm_mok175 : pm_mok 175 = true := by decide +kernel
theorem pm_mok176 : pm_mok 176 = true := by decide +kernel
theorem pm_mok177 : pm_mok 177 = true := by decide +kernel
theorem pm_mok178 : pm_mok 178 = true := by decide +kernel
theorem pm_mok179 : pm_mok 179 = true := by decide +kernel
theorem pm_mok180 : pm_mok 180 = true := by decide +kernel
theorem pm_mok181 : pm_mok 181 = true := by decide +kernel
theorem pm_mok182 : pm_mok 182 = true := by decide +kernel
theorem pm_mok183 : pm_mok 183 = true := by decide +kernel
theorem pm_mok184 : pm_mok 184 = true := by decide +kernel
theorem pm_mok185 : pm_mok 185 = true := by decide +kernel
theorem pm_mok186 : pm_mok 186 = true := by decide +kernel
theorem pm_mok187 : pm_mok 187 = true := by decide +kernel
theorem pm_mok188 : pm_mok 188 = true := by decide +kernel
theorem pm_mok189 : pm_mok 189 = true := by decide +kernel
theorem pm_mok190 : pm_mok 190 = true := by decide +kernel
theorem pm_mok191 : pm_mok 191 = true := by decide +kernel
theorem pm_mok193 : pm_mok 193 = true := by decide +kernel
theorem pm_mok194 : pm_mok 194 = true := by decide +kernel
theorem pm_mok195 : pm_mok 195 = true := by decide +kernel
theorem pm_mok196 : pm_mok 196 = true := by decide +kernel
theorem pm_mok197 : pm_mok 197 = true := by decide +kernel
theorem pm_mok198 : pm_mok 198 = true := by decide +kernel
theorem pm_mok199 : pm_mok 199 = true := by decide +kernel
theorem pm_mok200 : pm_mok 200 = true := by decide +kernel
theorem pm_mok201 : pm_mok 201 = true := by decide +kernel
theorem pm_mok202 : pm_mok 202 = true := by decide +kernel
theorem pm_mok203 : pm_mok 203 = true := by decide +kernel
theorem pm_mok204 : pm_mok 204 = true := by decide +kernel
theorem pm_chk0 : pm_k0.all (pm_chk 0) = true := by decide +kernel
theorem pm_chk1 : pm_k1.all (pm_chk 1) = true := by decide +kernel
theorem pm_chk2 : pm_k2.all (pm_chk 2) = true := by decide +kernel
theorem pm_chk3 : pm_k3.all (pm_chk 3) = true := by decide +kernel
theorem pm_chk4 : pm_k4.all (pm_chk 4) = true := by decide +kernel
theorem pm_chk5 : pm_k5.all (pm_chk 5) = true := by decide +kernel
theorem pm_chk6 : pm_k6.all (pm_chk 6) = true := by decide +kernel
theorem pm_chk7 : pm_k7.all (pm_chk 7) = true := by decide +kernel
theorem pm_chk8 : pm_k8.all (pm_chk 8) = true := by decide +kernel
theorem pm_chk9 : pm_k9.all (pm_chk 9) = true := by decide +kernel
theorem pm_chk10 : pm_k10.all (pm_chk 10) = true := by decide +kernel
theorem pm_chk11 : pm_k11.all (pm_chk 11) = true := by decide +kernel
theorem pm_chk12 : pm_k12.all (pm_chk 12) = true := by decide +kernel
theorem pm_chk13 : pm_k13.all (pm_chk 13) = true := by decide +kernel
theorem pm_chk14 : pm_k14.all (pm_chk 14) = true := by decide +kernel
theorem pm_chk15 : pm_k15.all (pm_chk 15) = true := by decide +kernel
theorem pm_chk16 : pm_k16.all (pm_chk 16) = true := by decide +kernel
theorem pm_chk17 : pm_k17.all (pm_chk 17) = true := by decide +kernel
theorem pm_chk18 : pm_k18.all (pm_chk 18) = true := by decide +kernel
theorem pm_chk19 : pm_k19.all (pm_chk 19) = true := by decide +kernel
theorem pm_chk20 : pm_k20.all (pm_chk 20) = true := by decide +kernel
theorem pm_chk21 : pm_k21.all (pm_chk 21) = true := by decide +kernel
theorem pm_chk22 : pm_k22.all (pm_chk 22) = true := by decide +kernel
theorem pm_chk23 : pm_k23.all (pm_chk 23) = true := by decide +kernel
theorem pm_chk24 : pm_k24.all (pm_chk 24) = true := by decide +kernel
theorem pm_chk25 : pm_k25.all (pm_chk 25) = true := by decide +kernel
theorem pm_chk26 : pm_k26.all (pm_chk 26) = true := by decide +kernel
theorem pm_chk27 : pm_k27.all (pm_chk 27) = true := by decide +kernel
theorem pm_chk28 : pm_k28.all (pm_chk 28) = true := by decide +kernel
theorem pm_chk29 : pm_k29.all (pm_chk 29) = true := by decide +kernel
theorem pm_chk30 : pm_k30.all (pm_chk 30) = true := by decide +kernel
theorem pm_chk31 : pm_k31.all (pm_chk 31) = true := by decide +kernel
theorem pm_chk32 : pm_k32.all (pm_chk 32) = true := by decide +kernel
theorem pm_chk33 : pm_k33.all (pm_chk 33) = true := by decide +kernel
theorem pm_chk34 : pm_k34.all (pm_chk 34) = true := by decide +kernel
theorem pm_chk35 : pm_k35.all (pm_chk 35) = true := by decide +kernel
theorem pm_chk36 : pm_k36.all (pm_chk 36) = true := by decide +kernel
theorem pm_chk37 : pm_k37.all (pm_chk 37) = true := by decide +kernel
theorem pm_chk38 : pm_k38.all (pm_chk 38) = true := by decide +kernel
theorem pm_chk39 : pm_k39.all (pm_chk 39) = true := by decide +kernel
theorem pm_chk40 : pm_k40.all (pm_chk 40) = true := by decide +kernel
theorem pm_chk41 : pm_k41.all (pm_chk 41) = true := by decide +kernel
theorem pm_chk42 : pm_k42.all (pm_chk 42) = true := by decide +kernel
theorem pm_chk43 : pm_k43.all (pm_chk 43) = true := by decide +kernel
theorem pm_chk44 : pm_k44.all (pm_chk 44) = true := by decide +kernel
theorem pm_chk45 : pm_k45.all (pm_chk 45) = true := by decide +kernel
theorem pm_chk46 : pm_k46.all (pm_chk 46) = true := by decide +kernel
theorem pm_chk47 : pm_k47.all (pm_chk 47) = true := by decide +kernel
theorem pm_chk48 : pm_k48.all (pm_chk 48) = true := by decide +kernel
theorem pm_chk49 : pm_k49.all (pm_chk 49) = true := by decide +kernel
theorem pm_chk50 : pm_k50.all (pm_chk 50) = true := by decide +kernel
theorem pm_chk51 : pm_k51.all (pm_chk 51) = true := by decide +kernel
theorem pm_chk52 : pm_k52.all (pm_chk 52) = true := by decide +kernel
theorem pm_chk53 : pm_k53.all (pm_chk 53) = true := by decide +kernel
theorem pm_chk54 : pm_k54.all (pm_chk 54) = true := by decide +kernel
theorem pm_chk55 : pm_k55.all (pm_chk 55) = true := by decide +kernel
theorem pm_chk56 : pm_k56.all (pm_chk 56) = true := by decide +kernel
theorem pm_chk57 : pm_k57.all (pm_chk 57) = true := by decide +kernel
theorem pm_chk58 : pm_k58.all (pm_chk 58) = true := by decide +kernel
theorem pm_chk59 : pm_k59.all (pm_chk 59) = true := by decide +kernel
theorem pm_chk193 : pm_k193.all (pm_chk 193) = true := by decide +kernel
theorem pm_chk194 : pm_k194.all (pm_chk 194) = true := by decide +kernel
theorem pm_chk195 : pm_k195.all (pm_chk 195) = true := by decide +kernel
theorem pm_chk196 : pm_k196.all (pm_chk 196) = true := by decide +kernel
theorem pm_chk197 : pm_k197.all (pm_chk 197) = true := by decide +kernel
theorem pm_chk198 : pm_k198.all (pm_chk 198) = true := by decide +kernel
theorem pm_chk199 : pm_k199.all (pm_chk 199) = true := by decide +kernel
theorem pm_chk200 : pm_k200.all (pm_chk 200) = true := by decide +kernel
theorem pm_chk201 : pm_k201.all (pm_chk 201) = true := by decide +kernel
theorem pm_chk202 : pm_k202.all (pm_chk 202) = true := by decide +kernel
theorem pm_chk203 : pm_k203.all (pm_chk 203) = true := by decide +kernel
theorem pm_chk204 : pm_k204.all (pm_chk 204) = true := by decide +kernel
