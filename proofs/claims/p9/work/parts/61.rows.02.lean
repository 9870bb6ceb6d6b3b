theorem ml_L_111 : Cond.methodLink RL 111 yX11_drop ∈ tblG := tg 938 (by decide +kernel) (by decide +kernel)
theorem im_X11_drop : Cond.instanceMethod yX11_drop ∈ tblG := tg 939 (by decide +kernel) (by decide +kernel)
theorem se_X11_drop : Cond.selects RX11 yX11_drop yX11_drop ∈ tblG := tg 940 (by decide +kernel) (by decide +kernel)
theorem cd_X11_drop : Cond.code yX11_drop cX11_drop 2 (some .int) ∈ tblG := tg 941 (by decide +kernel) (by decide +kernel)
theorem gW_X11_drop : GoodIn tblG (wsG yX11_drop cX11_drop 2 (some .int)) := tgi cd_X11_drop
theorem gV_L_111 : GoodIn tblG (wsV RL 111 RX11 yX11_drop (wsG yX11_drop cX11_drop 2 (some .int))) := tgV ml_L_111 im_X11_drop se_X11_drop ini_X11 gW_X11_drop
theorem hv_X11_drop : yX11_drop.cls = RX11 ∧ yX11_drop.cls ≠ "java/lang/invoke/MethodHandle" ∧ yX11_drop.cls ≠ "java/lang/invoke/VarHandle" ∧ (parseMethodDescriptor yX11_drop.desc).map (fun d => d.parameters.length) = some 1 := by decide +kernel
theorem ml_L_115 : Cond.methodLink RL 115 yX11_start ∈ tblG := tg 947 (by decide +kernel) (by decide +kernel)
theorem im_X11_start : Cond.instanceMethod yX11_start ∈ tblG := tg 948 (by decide +kernel) (by decide +kernel)
theorem se_X11_start : Cond.selects RX11 yX11_start yX11_start ∈ tblG := tg 949 (by decide +kernel) (by decide +kernel)
theorem cd_X11_start : Cond.code yX11_start cX11_start 3 (some .int) ∈ tblG := tg 950 (by decide +kernel) (by decide +kernel)
theorem gW_X11_start : GoodIn tblG (wsG yX11_start cX11_start 3 (some .int)) := tgi cd_X11_start
theorem gV_L_115 : GoodIn tblG (wsV RL 115 RX11 yX11_start (wsG yX11_start cX11_start 3 (some .int))) := tgV ml_L_115 im_X11_start se_X11_start ini_X11 gW_X11_start
theorem hv_X11_start : yX11_start.cls = RX11 ∧ yX11_start.cls ≠ "java/lang/invoke/MethodHandle" ∧ yX11_start.cls ≠ "java/lang/invoke/VarHandle" ∧ (parseMethodDescriptor yX11_start.desc).map (fun d => d.parameters.length) = some 1 := by decide +kernel
theorem ml_L_119 : Cond.methodLink RL 119 yX11_fits ∈ tblG := tg 951 (by decide +kernel) (by decide +kernel)
theorem im_X11_fits : Cond.instanceMethod yX11_fits ∈ tblG := tg 952 (by decide +kernel) (by decide +kernel)
theorem se_X11_fits : Cond.selects RX11 yX11_fits yX11_fits ∈ tblG := tg 953 (by decide +kernel) (by decide +kernel)
theorem cd_X11_fits : Cond.code yX11_fits cX11_fits 1 (some .long) ∈ tblG := tg 954 (by decide +kernel) (by decide +kernel)
theorem gW_X11_fits : GoodIn tblG (wsG yX11_fits cX11_fits 1 (some .long)) := tgi cd_X11_fits
theorem gV_L_119 : GoodIn tblG (wsV RL 119 RX11 yX11_fits (wsG yX11_fits cX11_fits 1 (some .long))) := tgV ml_L_119 im_X11_fits se_X11_fits ini_X11 gW_X11_fits
theorem hv_X11_fits : yX11_fits.cls = RX11 ∧ yX11_fits.cls ≠ "java/lang/invoke/MethodHandle" ∧ yX11_fits.cls ≠ "java/lang/invoke/VarHandle" ∧ (parseMethodDescriptor yX11_fits.desc).map (fun d => d.parameters.length) = some 0 := by decide +kernel
theorem ml_L_124 : Cond.methodLink RL 124 yX11_could ∈ tblG := tg 988 (by decide +kernel) (by decide +kernel)
theorem im_X11_could : Cond.instanceMethod yX11_could ∈ tblG := tg 989 (by decide +kernel) (by decide +kernel)
theorem se_X11_could : Cond.selects RX11 yX11_could yX11_could ∈ tblG := tg 990 (by decide +kernel) (by decide +kernel)
theorem cd_X11_could : Cond.code yX11_could cX11_could 3 (some .long) ∈ tblG := tg 991 (by decide +kernel) (by decide +kernel)
theorem gW_X11_could : GoodIn tblG (wsG yX11_could cX11_could 3 (some .long)) := tgi cd_X11_could
theorem gV_L_124 : GoodIn tblG (wsV RL 124 RX11 yX11_could (wsG yX11_could cX11_could 3 (some .long))) := tgV ml_L_124 im_X11_could se_X11_could ini_X11 gW_X11_could
theorem hv_X11_could : yX11_could.cls = RX11 ∧ yX11_could.cls ≠ "java/lang/invoke/MethodHandle" ∧ yX11_could.cls ≠ "java/lang/invoke/VarHandle" ∧ (parseMethodDescriptor yX11_could.desc).map (fun d => d.parameters.length) = some 2 := by decide +kernel
theorem ml_L_129 : Cond.methodLink RL 129 yX11_path ∈ tblG := tg 1016 (by decide +kernel) (by decide +kernel)
theorem im_X11_path : Cond.instanceMethod yX11_path ∈ tblG := tg 1017 (by decide +kernel) (by decide +kernel)
theorem se_X11_path : Cond.selects RX11 yX11_path yX11_path ∈ tblG := tg 1018 (by decide +kernel) (by decide +kernel)
theorem cd_X11_path : Cond.code yX11_path cX11_path 2 (some .int) ∈ tblG := tg 1019 (by decide +kernel) (by decide +kernel)
theorem gW_X11_path : GoodIn tblG (wsG yX11_path cX11_path 2 (some .int)) := tgi cd_X11_path
theorem gV_L_129 : GoodIn tblG (wsV RL 129 RX11 yX11_path (wsG yX11_path cX11_path 2 (some .int))) := tgV ml_L_129 im_X11_path se_X11_path ini_X11 gW_X11_path
theorem hv_X11_path : yX11_path.cls = RX11 ∧ yX11_path.cls ≠ "java/lang/invoke/MethodHandle" ∧ yX11_path.cls ≠ "java/lang/invoke/VarHandle" ∧ (parseMethodDescriptor yX11_path.desc).map (fun d => d.parameters.length) = some 1 := by decide +kernel
theorem ml_L_133 : Cond.methodLink RL 133 yX11_core ∈ tblG := tg 1030 (by decide +kernel) (by decide +kernel)
theorem im_X11_core : Cond.instanceMethod yX11_core ∈ tblG := tg 1031 (by decide +kernel) (by decide +kernel)
theorem se_X11_core : Cond.selects RX11 yX11_core yX11_core ∈ tblG := tg 1032 (by decide +kernel) (by decide +kernel)
theorem cd_X11_core : Cond.code yX11_core cX11_core 1 (some .int) ∈ tblG := tg 1033 (by decide +kernel) (by decide +kernel)
theorem gW_X11_core : GoodIn tblG (wsG yX11_core cX11_core 1 (some .int)) := tgi cd_X11_core
theorem gV_L_133 : GoodIn tblG (wsV RL 133 RX11 yX11_core (wsG yX11_core cX11_core 1 (some .int))) := tgV ml_L_133 im_X11_core se_X11_core ini_X11 gW_X11_core
theorem hv_X11_core : yX11_core.cls = RX11 ∧ yX11_core.cls ≠ "java/lang/invoke/MethodHandle" ∧ yX11_core.cls ≠ "java/lang/invoke/VarHandle" ∧ (parseMethodDescriptor yX11_core.desc).map (fun d => d.parameters.length) = some 0 := by decide +kernel
theorem ml_L_137 : Cond.methodLink RL 137 yX11_tells ∈ tblG := tg 1040 (by decide +kernel) (by decide +kernel)
theorem im_X11_tells : Cond.instanceMethod yX11_tells ∈ tblG := tg 1041 (by decide +kernel) (by decide +kernel)
theorem se_X11_tells : Cond.selects RX11 yX11_tells yX11_tells ∈ tblG := tg 1042 (by decide +kernel) (by decide +kernel)
theorem cd_X11_tells : Cond.code yX11_tells cX11_tells 6 (some .long) ∈ tblG := tg 1043 (by decide +kernel) (by decide +kernel)
theorem gW_X11_tells : GoodIn tblG (wsG yX11_tells cX11_tells 6 (some .long)) := tgi cd_X11_tells
theorem gV_L_137 : GoodIn tblG (wsV RL 137 RX11 yX11_tells (wsG yX11_tells cX11_tells 6 (some .long))) := tgV ml_L_137 im_X11_tells se_X11_tells ini_X11 gW_X11_tells
theorem hv_X11_tells : yX11_tells.cls = RX11 ∧ yX11_tells.cls ≠ "java/lang/invoke/MethodHandle" ∧ yX11_tells.cls ≠ "java/lang/invoke/VarHandle" ∧ (parseMethodDescriptor yX11_tells.desc).map (fun d => d.parameters.length) = some 3 := by decide +kernel
theorem ml_L_142 : Cond.methodLink RL 142 yX11_surely ∈ tblG := tg 1045 (by decide +kernel) (by decide +kernel)
theorem im_X11_surely : Cond.instanceMethod yX11_surely ∈ tblG := tg 1046 (by decide +kernel) (by decide +kernel)
theorem se_X11_surely : Cond.selects RX11 yX11_surely yX11_surely ∈ tblG := tg 1047 (by decide +kernel) (by decide +kernel)
theorem cd_X11_surely : Cond.code yX11_surely cX11_surely 4 (some .int) ∈ tblG := tg 1048 (by decide +kernel) (by decide +kernel)
theorem gW_X11_surely : GoodIn tblG (wsG yX11_surely cX11_surely 4 (some .int)) := tgi cd_X11_surely
theorem gV_L_142 : GoodIn tblG (wsV RL 142 RX11 yX11_surely (wsG yX11_surely cX11_surely 4 (some .int))) := tgV ml_L_142 im_X11_surely se_X11_surely ini_X11 gW_X11_surely
theorem hv_X11_surely : yX11_surely.cls = RX11 ∧ yX11_surely.cls ≠ "java/lang/invoke/MethodHandle" ∧ yX11_surely.cls ≠ "java/lang/invoke/VarHandle" ∧ (parseMethodDescriptor yX11_surely.desc).map (fun d => d.parameters.length) = some 1 := by decide +kernel
theorem ml_L_146 : Cond.methodLink RL 146 yX11_spot ∈ tblG := tg 1056 (by decide +kernel) (by decide +kernel)
theorem im_X11_spot : Cond.instanceMethod yX11_spot ∈ tblG := tg 1057 (by decide +kernel) (by decide +kernel)
theorem se_X11_spot : Cond.selects RX11 yX11_spot yX11_spot ∈ tblG := tg 1058 (by decide +kernel) (by decide +kernel)
theorem cd_X11_spot : Cond.code yX11_spot cX11_spot 5 (some .int) ∈ tblG := tg 1059 (by decide +kernel) (by decide +kernel)
theorem gW_X11_spot : GoodIn tblG (wsG yX11_spot cX11_spot 5 (some .int)) := tgi cd_X11_spot
theorem gV_L_146 : GoodIn tblG (wsV RL 146 RX11 yX11_spot (wsG yX11_spot cX11_spot 5 (some .int))) := tgV ml_L_146 im_X11_spot se_X11_spot ini_X11 gW_X11_spot
theorem hv_X11_spot : yX11_spot.cls = RX11 ∧ yX11_spot.cls ≠ "java/lang/invoke/MethodHandle" ∧ yX11_spot.cls ≠ "java/lang/invoke/VarHandle" ∧ (parseMethodDescriptor yX11_spot.desc).map (fun d => d.parameters.length) = some 3 := by decide +kernel
theorem ml_L_150 : Cond.methodLink RL 150 yX11_wish ∈ tblG := tg 1060 (by decide +kernel) (by decide +kernel)
theorem im_X11_wish : Cond.instanceMethod yX11_wish ∈ tblG := tg 1061 (by decide +kernel) (by decide +kernel)
theorem se_X11_wish : Cond.selects RX11 yX11_wish yX11_wish ∈ tblG := tg 1062 (by decide +kernel) (by decide +kernel)
theorem cd_X11_wish : Cond.code yX11_wish cX11_wish 8 (some .int) ∈ tblG := tg 1063 (by decide +kernel) (by decide +kernel)
theorem gW_X11_wish : GoodIn tblG (wsG yX11_wish cX11_wish 8 (some .int)) := tgi cd_X11_wish
theorem gV_L_150 : GoodIn tblG (wsV RL 150 RX11 yX11_wish (wsG yX11_wish cX11_wish 8 (some .int))) := tgV ml_L_150 im_X11_wish se_X11_wish ini_X11 gW_X11_wish
theorem hv_X11_wish : yX11_wish.cls = RX11 ∧ yX11_wish.cls ≠ "java/lang/invoke/MethodHandle" ∧ yX11_wish.cls ≠ "java/lang/invoke/VarHandle" ∧ (parseMethodDescriptor yX11_wish.desc).map (fun d => d.parameters.length) = some 6 := by decide +kernel
theorem ml_L_155 : Cond.methodLink RL 155 yX11_lacks ∈ tblG := tg 1064 (by decide +kernel) (by decide +kernel)
theorem im_X11_lacks : Cond.instanceMethod yX11_lacks ∈ tblG := tg 1065 (by decide +kernel) (by decide +kernel)
theorem se_X11_lacks : Cond.selects RX11 yX11_lacks yX11_lacks ∈ tblG := tg 1066 (by decide +kernel) (by decide +kernel)
theorem cd_X11_lacks : Cond.code yX11_lacks cX11_lacks 2 (some .int) ∈ tblG := tg 1067 (by decide +kernel) (by decide +kernel)
theorem gW_X11_lacks : GoodIn tblG (wsG yX11_lacks cX11_lacks 2 (some .int)) := tgi cd_X11_lacks
theorem gV_L_155 : GoodIn tblG (wsV RL 155 RX11 yX11_lacks (wsG yX11_lacks cX11_lacks 2 (some .int))) := tgV ml_L_155 im_X11_lacks se_X11_lacks ini_X11 gW_X11_lacks
theorem hv_X11_lacks : yX11_lacks.cls = RX11 ∧ yX11_lacks.cls ≠ "java/lang/invoke/MethodHandle" ∧ yX11_lacks.cls ≠ "java/lang/invoke/VarHandle" ∧ (parseMethodDescriptor yX11_lacks.desc).map (fun d => d.parameters.length) = some 1 := by decide +kernel
theorem ml_L_159 : Cond.methodLink RL 159 yX11_hang ∈ tblG := tg 1078 (by decide +kernel) (by decide +kernel)
theorem im_X11_hang : Cond.instanceMethod yX11_hang ∈ tblG := tg 1079 (by decide +kernel) (by decide +kernel)
theorem se_X11_hang : Cond.selects RX11 yX11_hang yX11_hang ∈ tblG := tg 1080 (by decide +kernel) (by decide +kernel)
theorem cd_X11_hang : Cond.code yX11_hang cX11_hang 2 (some .int) ∈ tblG := tg 1081 (by decide +kernel) (by decide +kernel)
theorem gW_X11_hang : GoodIn tblG (wsG yX11_hang cX11_hang 2 (some .int)) := tgi cd_X11_hang
theorem gV_L_159 : GoodIn tblG (wsV RL 159 RX11 yX11_hang (wsG yX11_hang cX11_hang 2 (some .int))) := tgV ml_L_159 im_X11_hang se_X11_hang ini_X11 gW_X11_hang
theorem hv_X11_hang : yX11_hang.cls = RX11 ∧ yX11_hang.cls ≠ "java/lang/invoke/MethodHandle" ∧ yX11_hang.cls ≠ "java/lang/invoke/VarHandle" ∧ (parseMethodDescriptor yX11_hang.desc).map (fun d => d.parameters.length) = some 1 := by decide +kernel
theorem ml_L_163 : Cond.methodLink RL 163 yX11_soonest ∈ tblG := tg 1093 (by decide +kernel) (by decide +kernel)
theorem im_X11_soonest : Cond.instanceMethod yX11_soonest ∈ tblG := tg 1094 (by decide +kernel) (by decide +kernel)
theorem se_X11_soonest : Cond.selects RX11 yX11_soonest yX11_soonest ∈ tblG := tg 1095 (by decide +kernel) (by decide +kernel)
theorem cd_X11_soonest : Cond.code yX11_soonest cX11_soonest 4 (some .int) ∈ tblG := tg 1096 (by decide +kernel) (by decide +kernel)
theorem gW_X11_soonest : GoodIn tblG (wsG yX11_soonest cX11_soonest 4 (some .int)) := tgi cd_X11_soonest
theorem gV_L_163 : GoodIn tblG (wsV RL 163 RX11 yX11_soonest (wsG yX11_soonest cX11_soonest 4 (some .int))) := tgV ml_L_163 im_X11_soonest se_X11_soonest ini_X11 gW_X11_soonest
theorem hv_X11_soonest : yX11_soonest.cls = RX11 ∧ yX11_soonest.cls ≠ "java/lang/invoke/MethodHandle" ∧ yX11_soonest.cls ≠ "java/lang/invoke/VarHandle" ∧ (parseMethodDescriptor yX11_soonest.desc).map (fun d => d.parameters.length) = some 3 := by decide +kernel
theorem ml_L_167 : Cond.methodLink RL 167 yX11_way ∈ tblG := tg 1122 (by decide +kernel) (by decide +kernel)
theorem im_X11_way : Cond.instanceMethod yX11_way ∈ tblG := tg 1123 (by decide +kernel) (by decide +kernel)
theorem se_X11_way : Cond.selects RX11 yX11_way yX11_way ∈ tblG := tg 1124 (by decide +kernel) (by decide +kernel)
theorem cd_X11_way : Cond.code yX11_way cX11_way 6 (some .int) ∈ tblG := tg 1125 (by decide +kernel) (by decide +kernel)
theorem gW_X11_way : GoodIn tblG (wsG yX11_way cX11_way 6 (some .int)) := tgi cd_X11_way
theorem gV_L_167 : GoodIn tblG (wsV RL 167 RX11 yX11_way (wsG yX11_way cX11_way 6 (some .int))) := tgV ml_L_167 im_X11_way se_X11_way ini_X11 gW_X11_way
theorem hv_X11_way : yX11_way.cls = RX11 ∧ yX11_way.cls ≠ "java/lang/invoke/MethodHandle" ∧ yX11_way.cls ≠ "java/lang/invoke/VarHandle" ∧ (parseMethodDescriptor yX11_way.desc).map (fun d => d.parameters.length) = some 4 := by decide +kernel
theorem ml_L_171 : Cond.methodLink RL 171 yX11_sooner ∈ tblG := tg 1135 (by decide +kernel) (by decide +kernel)
theorem im_X11_sooner : Cond.instanceMethod yX11_sooner ∈ tblG := tg 1136 (by decide +kernel) (by decide +kernel)
theorem se_X11_sooner : Cond.selects RX11 yX11_sooner yX11_sooner ∈ tblG := tg 1137 (by decide +kernel) (by decide +kernel)
theorem cd_X11_sooner : Cond.code yX11_sooner cX11_sooner 12 (some .int) ∈ tblG := tg 1138 (by decide +kernel) (by decide +kernel)
theorem gW_X11_sooner : GoodIn tblG (wsG yX11_sooner cX11_sooner 12 (some .int)) := tgi cd_X11_sooner
theorem gV_L_171 : GoodIn tblG (wsV RL 171 RX11 yX11_sooner (wsG yX11_sooner cX11_sooner 12 (some .int))) := tgV ml_L_171 im_X11_sooner se_X11_sooner ini_X11 gW_X11_sooner
theorem hv_X11_sooner : yX11_sooner.cls = RX11 ∧ yX11_sooner.cls ≠ "java/lang/invoke/MethodHandle" ∧ yX11_sooner.cls ≠ "java/lang/invoke/VarHandle" ∧ (parseMethodDescriptor yX11_sooner.desc).map (fun d => d.parameters.length) = some 4 := by decide +kernel
theorem ml_L_175 : Cond.methodLink RL 175 yX11_wander ∈ tblG := tg 1143 (by decide +kernel) (by decide +kernel)
theorem im_X11_wander : Cond.instanceMethod yX11_wander ∈ tblG := tg 1144 (by decide +kernel) (by decide +kernel)
theorem se_X11_wander : Cond.selects RX11 yX11_wander yX11_wander ∈ tblG := tg 1145 (by decide +kernel) (by decide +kernel)
theorem cd_X11_wander : Cond.code yX11_wander cX11_wander 9 (some .int) ∈ tblG := tg 1146 (by decide +kernel) (by decide +kernel)
theorem gW_X11_wander : GoodIn tblG (wsG yX11_wander cX11_wander 9 (some .int)) := tgi cd_X11_wander
theorem gV_L_175 : GoodIn tblG (wsV RL 175 RX11 yX11_wander (wsG yX11_wander cX11_wander 9 (some .int))) := tgV ml_L_175 im_X11_wander se_X11_wander ini_X11 gW_X11_wander
theorem hv_X11_wander : yX11_wander.cls = RX11 ∧ yX11_wander.cls ≠ "java/lang/invoke/MethodHandle" ∧ yX11_wander.cls ≠ "java/lang/invoke/VarHandle" ∧ (parseMethodDescriptor yX11_wander.desc).map (fun d => d.parameters.length) = some 2 := by decide +kernel
theorem ml_L_179 : Cond.methodLink RL 179 yX11_drawn ∈ tblG := tg 1152 (by decide +kernel) (by decide +kernel)
theorem im_X11_drawn : Cond.instanceMethod yX11_drawn ∈ tblG := tg 1153 (by decide +kernel) (by decide +kernel)
theorem se_X11_drawn : Cond.selects RX11 yX11_drawn yX11_drawn ∈ tblG := tg 1154 (by decide +kernel) (by decide +kernel)
theorem cd_X11_drawn : Cond.code yX11_drawn cX11_drawn 2 (some .int) ∈ tblG := tg 1155 (by decide +kernel) (by decide +kernel)
theorem gW_X11_drawn : GoodIn tblG (wsG yX11_drawn cX11_drawn 2 (some .int)) := tgi cd_X11_drawn
theorem gV_L_179 : GoodIn tblG (wsV RL 179 RX11 yX11_drawn (wsG yX11_drawn cX11_drawn 2 (some .int))) := tgV ml_L_179 im_X11_drawn se_X11_drawn ini_X11 gW_X11_drawn
theorem hv_X11_drawn : yX11_drawn.cls = RX11 ∧ yX11_drawn.cls ≠ "java/lang/invoke/MethodHandle" ∧ yX11_drawn.cls ≠ "java/lang/invoke/VarHandle" ∧ (parseMethodDescriptor yX11_drawn.desc).map (fun d => d.parameters.length) = some 1 := by decide +kernel
theorem ml_L_183 : Cond.methodLink RL 183 yX11_image ∈ tblG := tg 1156 (by decide +kernel) (by decide +kernel)
theorem im_X11_image : Cond.instanceMethod yX11_image ∈ tblG := tg 1157 (by decide +kernel) (by decide +kernel)
theorem se_X11_image : Cond.selects RX11 yX11_image yX11_image ∈ tblG := tg 1158 (by decide +kernel) (by decide +kernel)
theorem cd_X11_image : Cond.code yX11_image cX11_image 2 (some .int) ∈ tblG := tg 1159 (by decide +kernel) (by decide +kernel)
theorem gW_X11_image : GoodIn tblG (wsG yX11_image cX11_image 2 (some .int)) := tgi cd_X11_image
theorem gV_L_183 : GoodIn tblG (wsV RL 183 RX11 yX11_image (wsG yX11_image cX11_image 2 (some .int))) := tgV ml_L_183 im_X11_image se_X11_image ini_X11 gW_X11_image
theorem hv_X11_image : yX11_image.cls = RX11 ∧ yX11_image.cls ≠ "java/lang/invoke/MethodHandle" ∧ yX11_image.cls ≠ "java/lang/invoke/VarHandle" ∧ (parseMethodDescriptor yX11_image.desc).map (fun d => d.parameters.length) = some 1 := by decide +kernel
theorem ml_L_187 : Cond.methodLink RL 187 yX11_back ∈ tblG := tg 1172 (by decide +kernel) (by decide +kernel)
theorem im_X11_back : Cond.instanceMethod yX11_back ∈ tblG := tg 1173 (by decide +kernel) (by decide +kernel)
theorem se_X11_back : Cond.selects RX11 yX11_back yX11_back ∈ tblG := tg 1174 (by decide +kernel) (by decide +kernel)
theorem cd_X11_back : Cond.code yX11_back cX11_back 2 (some .int) ∈ tblG := tg 1175 (by decide +kernel) (by decide +kernel)
theorem gW_X11_back : GoodIn tblG (wsG yX11_back cX11_back 2 (some .int)) := tgi cd_X11_back
theorem gV_L_187 : GoodIn tblG (wsV RL 187 RX11 yX11_back (wsG yX11_back cX11_back 2 (some .int))) := tgV ml_L_187 im_X11_back se_X11_back ini_X11 gW_X11_back
theorem hv_X11_back : yX11_back.cls = RX11 ∧ yX11_back.cls ≠ "java/lang/invoke/MethodHandle" ∧ yX11_back.cls ≠ "java/lang/invoke/VarHandle" ∧ (parseMethodDescriptor yX11_back.desc).map (fun d => d.parameters.length) = some 1 := by decide +kernel
theorem ml_L_191 : Cond.methodLink RL 191 yX11_count ∈ tblG := tg 1176 (by decide +kernel) (by decide +kernel)
theorem im_X11_count : Cond.instanceMethod yX11_count ∈ tblG := tg 1177 (by decide +kernel) (by decide +kernel)
theorem se_X11_count : Cond.selects RX11 yX11_count yX11_count ∈ tblG := tg 1178 (by decide +kernel) (by decide +kernel)
theorem cd_X11_count : Cond.code yX11_count cX11_count 2 (some .int) ∈ tblG := tg 1179 (by decide +kernel) (by decide +kernel)
theorem gW_X11_count : GoodIn tblG (wsG yX11_count cX11_count 2 (some .int)) := tgi cd_X11_count
theorem gV_L_191 : GoodIn tblG (wsV RL 191 RX11 yX11_count (wsG yX11_count cX11_count 2 (some .int))) := tgV ml_L_191 im_X11_count se_X11_count ini_X11 gW_X11_count
theorem hv_X11_count : yX11_count.cls = RX11 ∧ yX11_count.cls ≠ "java/lang/invoke/MethodHandle" ∧ yX11_count.cls ≠ "java/lang/invoke/VarHandle" ∧ (parseMethodDescriptor yX11_count.desc).map (fun d => d.parameters.length) = some 1 := by decide +kernel
theorem ml_L_195 : Cond.methodLink RL 195 yX11_status ∈ tblG := tg 1180 (by decide +kernel) (by decide +kernel)
theorem im_X11_status : Cond.instanceMethod yX11_status ∈ tblG := tg 1181 (by decide +kernel) (by decide +kernel)
theorem se_X11_status : Cond.selects RX11 yX11_status yX11_status ∈ tblG := tg 1182 (by decide +kernel) (by decide +kernel)
theorem cd_X11_status : Cond.code yX11_status cX11_status 1 (some .int) ∈ tblG := tg 1183 (by decide +kernel) (by decide +kernel)
theorem gW_X11_status : GoodIn tblG (wsG yX11_status cX11_status 1 (some .int)) := tgi cd_X11_status
theorem gV_L_195 : GoodIn tblG (wsV RL 195 RX11 yX11_status (wsG yX11_status cX11_status 1 (some .int))) := tgV ml_L_195 im_X11_status se_X11_status ini_X11 gW_X11_status
theorem hv_X11_status : yX11_status.cls = RX11 ∧ yX11_status.cls ≠ "java/lang/invoke/MethodHandle" ∧ yX11_status.cls ≠ "java/lang/invoke/VarHandle" ∧ (parseMethodDescriptor yX11_status.desc).map (fun d => d.parameters.length) = some 0 := by decide +kernel
theorem ml_L_17 : Cond.methodLink RL 17 yX12_wall ∈ tblG := tg 1375 (by decide +kernel) (by decide +kernel)
theorem im_X12_wall : Cond.instanceMethod yX12_wall ∈ tblG := tg 1376 (by decide +kernel) (by decide +kernel)
theorem se_X12_wall : Cond.selects RX12 yX12_wall yX12_wall ∈ tblG := tg 1377 (by decide +kernel) (by decide +kernel)
theorem cd_X12_wall : Cond.code yX12_wall cX12_wall 3 (some .int) ∈ tblG := tg 1378 (by decide +kernel) (by decide +kernel)
theorem gW_X12_wall : GoodIn tblG (wsG yX12_wall cX12_wall 3 (some .int)) := tgi cd_X12_wall
theorem gV_L_17 : GoodIn tblG (wsV RL 17 RX12 yX12_wall (wsG yX12_wall cX12_wall 3 (some .int))) := tgV ml_L_17 im_X12_wall se_X12_wall ini_X12 gW_X12_wall
theorem hv_X12_wall : yX12_wall.cls = RX12 ∧ yX12_wall.cls ≠ "java/lang/invoke/MethodHandle" ∧ yX12_wall.cls ≠ "java/lang/invoke/VarHandle" ∧ (parseMethodDescriptor yX12_wall.desc).map (fun d => d.parameters.length) = some 2 := by decide +kernel
theorem ml_L_22 : Cond.methodLink RL 22 yX12_glass ∈ tblG := tg 1407 (by decide +kernel) (by decide +kernel)
theorem im_X12_glass : Cond.instanceMethod yX12_glass ∈ tblG := tg 1408 (by decide +kernel) (by decide +kernel)
theorem se_X12_glass : Cond.selects RX12 yX12_glass yX12_glass ∈ tblG := tg 1409 (by decide +kernel) (by decide +kernel)
theorem cd_X12_glass : Cond.code yX12_glass cX12_glass 7 (some .int) ∈ tblG := tg 1410 (by decide +kernel) (by decide +kernel)
theorem gW_X12_glass : GoodIn tblG (wsG yX12_glass cX12_glass 7 (some .int)) := tgi cd_X12_glass
theorem gV_L_22 : GoodIn tblG (wsV RL 22 RX12 yX12_glass (wsG yX12_glass cX12_glass 7 (some .int))) := tgV ml_L_22 im_X12_glass se_X12_glass ini_X12 gW_X12_glass
theorem hv_X12_glass : yX12_glass.cls = RX12 ∧ yX12_glass.cls ≠ "java/lang/invoke/MethodHandle" ∧ yX12_glass.cls ≠ "java/lang/invoke/VarHandle" ∧ (parseMethodDescriptor yX12_glass.desc).map (fun d => d.parameters.length) = some 4 := by decide +kernel
theorem ml_L_27 : Cond.methodLink RL 27 yX12_turn ∈ tblG := tg 1426 (by decide +kernel) (by decide +kernel)
theorem im_X12_turn : Cond.instanceMethod yX12_turn ∈ tblG := tg 1427 (by decide +kernel) (by decide +kernel)
theorem se_X12_turn : Cond.selects RX12 yX12_turn yX12_turn ∈ tblG := tg 1428 (by decide +kernel) (by decide +kernel)
theorem cd_X12_turn : Cond.code yX12_turn cX12_turn 4 (some .int) ∈ tblG := tg 1429 (by decide +kernel) (by decide +kernel)
theorem gW_X12_turn : GoodIn tblG (wsG yX12_turn cX12_turn 4 (some .int)) := tgi cd_X12_turn
theorem gV_L_27 : GoodIn tblG (wsV RL 27 RX12 yX12_turn (wsG yX12_turn cX12_turn 4 (some .int))) := tgV ml_L_27 im_X12_turn se_X12_turn ini_X12 gW_X12_turn
theorem hv_X12_turn : yX12_turn.cls = RX12 ∧ yX12_turn.cls ≠ "java/lang/invoke/MethodHandle" ∧ yX12_turn.cls ≠ "java/lang/invoke/VarHandle" ∧ (parseMethodDescriptor yX12_turn.desc).map (fun d => d.parameters.length) = some 3 := by decide +kernel
theorem ml_L_31 : Cond.methodLink RL 31 yX12_of ∈ tblG := tg 1434 (by decide +kernel) (by decide +kernel)
theorem im_X12_of : Cond.instanceMethod yX12_of ∈ tblG := tg 1435 (by decide +kernel) (by decide +kernel)
theorem se_X12_of : Cond.selects RX12 yX12_of yX12_of ∈ tblG := tg 1436 (by decide +kernel) (by decide +kernel)
theorem cd_X12_of : Cond.code yX12_of cX12_of 3 (some .int) ∈ tblG := tg 1437 (by decide +kernel) (by decide +kernel)
theorem gW_X12_of : GoodIn tblG (wsG yX12_of cX12_of 3 (some .int)) := tgi cd_X12_of
theorem gV_L_31 : GoodIn tblG (wsV RL 31 RX12 yX12_of (wsG yX12_of cX12_of 3 (some .int))) := tgV ml_L_31 im_X12_of se_X12_of ini_X12 gW_X12_of
theorem hv_X12_of : yX12_of.cls = RX12 ∧ yX12_of.cls ≠ "java/lang/invoke/MethodHandle" ∧ yX12_of.cls ≠ "java/lang/invoke/VarHandle" ∧ (parseMethodDescriptor yX12_of.desc).map (fun d => d.parameters.length) = some 2 := by decide +kernel
theorem ml_L_36 : Cond.methodLink RL 36 yX12_body ∈ tblG := tg 1439 (by decide +kernel) (by decide +kernel)
theorem im_X12_body : Cond.instanceMethod yX12_body ∈ tblG := tg 1440 (by decide +kernel) (by decide +kernel)
theorem se_X12_body : Cond.selects RX12 yX12_body yX12_body ∈ tblG := tg 1441 (by decide +kernel) (by decide +kernel)
theorem cd_X12_body : Cond.code yX12_body cX12_body 3 (some .int) ∈ tblG := tg 1442 (by decide +kernel) (by decide +kernel)
theorem gW_X12_body : GoodIn tblG (wsG yX12_body cX12_body 3 (some .int)) := tgi cd_X12_body
theorem gV_L_36 : GoodIn tblG (wsV RL 36 RX12 yX12_body (wsG yX12_body cX12_body 3 (some .int))) := tgV ml_L_36 im_X12_body se_X12_body ini_X12 gW_X12_body
theorem hv_X12_body : yX12_body.cls = RX12 ∧ yX12_body.cls ≠ "java/lang/invoke/MethodHandle" ∧ yX12_body.cls ≠ "java/lang/invoke/VarHandle" ∧ (parseMethodDescriptor yX12_body.desc).map (fun d => d.parameters.length) = some 0 := by decide +kernel
theorem ml_L_40 : Cond.methodLink RL 40 yX12_stay ∈ tblG := tg 1443 (by decide +kernel) (by decide +kernel)
theorem im_X12_stay : Cond.instanceMethod yX12_stay ∈ tblG := tg 1444 (by decide +kernel) (by decide +kernel)
theorem se_X12_stay : Cond.selects RX12 yX12_stay yX12_stay ∈ tblG := tg 1445 (by decide +kernel) (by decide +kernel)
theorem cd_X12_stay : Cond.code yX12_stay cX12_stay 5 (some .int) ∈ tblG := tg 1446 (by decide +kernel) (by decide +kernel)
theorem gW_X12_stay : GoodIn tblG (wsG yX12_stay cX12_stay 5 (some .int)) := tgi cd_X12_stay
theorem gV_L_40 : GoodIn tblG (wsV RL 40 RX12 yX12_stay (wsG yX12_stay cX12_stay 5 (some .int))) := tgV ml_L_40 im_X12_stay se_X12_stay ini_X12 gW_X12_stay
theorem hv_X12_stay : yX12_stay.cls = RX12 ∧ yX12_stay.cls ≠ "java/lang/invoke/MethodHandle" ∧ yX12_stay.cls ≠ "java/lang/invoke/VarHandle" ∧ (parseMethodDescriptor yX12_stay.desc).map (fun d => d.parameters.length) = some 4 := by decide +kernel
theorem ml_L_44 : Cond.methodLink RL 44 yX12_where ∈ tblG := tg 1459 (by decide +kernel) (by decide +kernel)
theorem im_X12_where : Cond.instanceMethod yX12_where ∈ tblG := tg 1460 (by decide +kernel) (by decide +kernel)
theorem se_X12_where : Cond.selects RX12 yX12_where yX12_where ∈ tblG := tg 1461 (by decide +kernel) (by decide +kernel)
theorem cd_X12_where : Cond.code yX12_where cX12_where 3 (some .int) ∈ tblG := tg 1462 (by decide +kernel) (by decide +kernel)
theorem gW_X12_where : GoodIn tblG (wsG yX12_where cX12_where 3 (some .int)) := tgi cd_X12_where
theorem gV_L_44 : GoodIn tblG (wsV RL 44 RX12 yX12_where (wsG yX12_where cX12_where 3 (some .int))) := tgV ml_L_44 im_X12_where se_X12_where ini_X12 gW_X12_where
theorem hv_X12_where : yX12_where.cls = RX12 ∧ yX12_where.cls ≠ "java/lang/invoke/MethodHandle" ∧ yX12_where.cls ≠ "java/lang/invoke/VarHandle" ∧ (parseMethodDescriptor yX12_where.desc).map (fun d => d.parameters.length) = some 2 := by decide +kernel
theorem ml_L_49 : Cond.methodLink RL 49 yX12_least ∈ tblG := tg 1467 (by decide +kernel) (by decide +kernel)
theorem im_X12_least : Cond.instanceMethod yX12_least ∈ tblG := tg 1468 (by decide +kernel) (by decide +kernel)
theorem se_X12_least : Cond.selects RX12 yX12_least yX12_least ∈ tblG := tg 1469 (by decide +kernel) (by decide +kernel)
theorem cd_X12_least : Cond.code yX12_least cX12_least 2 (some .int) ∈ tblG := tg 1470 (by decide +kernel) (by decide +kernel)
theorem gW_X12_least : GoodIn tblG (wsG yX12_least cX12_least 2 (some .int)) := tgi cd_X12_least
theorem gV_L_49 : GoodIn tblG (wsV RL 49 RX12 yX12_least (wsG yX12_least cX12_least 2 (some .int))) := tgV ml_L_49 im_X12_least se_X12_least ini_X12 gW_X12_least
theorem hv_X12_least : yX12_least.cls = RX12 ∧ yX12_least.cls ≠ "java/lang/invoke/MethodHandle" ∧ yX12_least.cls ≠ "java/lang/invoke/VarHandle" ∧ (parseMethodDescriptor yX12_least.desc).map (fun d => d.parameters.length) = some 1 := by decide +kernel
theorem ml_L_54 : Cond.methodLink RL 54 yX12_feed ∈ tblG := tg 1480 (by decide +kernel) (by decide +kernel)
theorem im_X12_feed : Cond.instanceMethod yX12_feed ∈ tblG := tg 1481 (by decide +kernel) (by decide +kernel)
theorem se_X12_feed : Cond.selects RX12 yX12_feed yX12_feed ∈ tblG := tg 1482 (by decide +kernel) (by decide +kernel)
theorem cd_X12_feed : Cond.code yX12_feed cX12_feed 6 (some .int) ∈ tblG := tg 1483 (by decide +kernel) (by decide +kernel)
theorem gW_X12_feed : GoodIn tblG (wsG yX12_feed cX12_feed 6 (some .int)) := tgi cd_X12_feed
theorem gV_L_54 : GoodIn tblG (wsV RL 54 RX12 yX12_feed (wsG yX12_feed cX12_feed 6 (some .int))) := tgV ml_L_54 im_X12_feed se_X12_feed ini_X12 gW_X12_feed
theorem hv_X12_feed : yX12_feed.cls = RX12 ∧ yX12_feed.cls ≠ "java/lang/invoke/MethodHandle" ∧ yX12_feed.cls ≠ "java/lang/invoke/VarHandle" ∧ (parseMethodDescriptor yX12_feed.desc).map (fun d => d.parameters.length) = some 5 := by decide +kernel
theorem ml_L_58 : Cond.methodLink RL 58 yX12_end ∈ tblG := tg 1488 (by decide +kernel) (by decide +kernel)
theorem im_X12_end : Cond.instanceMethod yX12_end ∈ tblG := tg 1489 (by decide +kernel) (by decide +kernel)
theorem se_X12_end : Cond.selects RX12 yX12_end yX12_end ∈ tblG := tg 1490 (by decide +kernel) (by decide +kernel)
theorem cd_X12_end : Cond.code yX12_end cX12_end 2 (some .int) ∈ tblG := tg 1491 (by decide +kernel) (by decide +kernel)
theorem gW_X12_end : GoodIn tblG (wsG yX12_end cX12_end 2 (some .int)) := tgi cd_X12_end
theorem gV_L_58 : GoodIn tblG (wsV RL 58 RX12 yX12_end (wsG yX12_end cX12_end 2 (some .int))) := tgV ml_L_58 im_X12_end se_X12_end ini_X12 gW_X12_end
theorem hv_X12_end : yX12_end.cls = RX12 ∧ yX12_end.cls ≠ "java/lang/invoke/MethodHandle" ∧ yX12_end.cls ≠ "java/lang/invoke/VarHandle" ∧ (parseMethodDescriptor yX12_end.desc).map (fun d => d.parameters.length) = some 1 := by decide +kernel
theorem ml_L_62 : Cond.methodLink RL 62 yX12_row ∈ tblG := tg 1472 (by decide +kernel) (by decide +kernel)
theorem im_X12_row : Cond.instanceMethod yX12_row ∈ tblG := tg 1473 (by decide +kernel) (by decide +kernel)
theorem se_X12_row : Cond.selects RX12 yX12_row yX12_row ∈ tblG := tg 1474 (by decide +kernel) (by decide +kernel)
theorem cd_X12_row : Cond.code yX12_row cX12_row 5 (some .int) ∈ tblG := tg 1475 (by decide +kernel) (by decide +kernel)
theorem gW_X12_row : GoodIn tblG (wsG yX12_row cX12_row 5 (some .int)) := tgi cd_X12_row
theorem gV_L_62 : GoodIn tblG (wsV RL 62 RX12 yX12_row (wsG yX12_row cX12_row 5 (some .int))) := tgV ml_L_62 im_X12_row se_X12_row ini_X12 gW_X12_row
theorem hv_X12_row : yX12_row.cls = RX12 ∧ yX12_row.cls ≠ "java/lang/invoke/MethodHandle" ∧ yX12_row.cls ≠ "java/lang/invoke/VarHandle" ∧ (parseMethodDescriptor yX12_row.desc).map (fun d => d.parameters.length) = some 0 := by decide +kernel
theorem ml_L_66 : Cond.methodLink RL 66 yX12_faded ∈ tblG := tg 1476 (by decide +kernel) (by decide +kernel)
theorem im_X12_faded : Cond.instanceMethod yX12_faded ∈ tblG := tg 1477 (by decide +kernel) (by decide +kernel)
theorem se_X12_faded : Cond.selects RX12 yX12_faded yX12_faded ∈ tblG := tg 1478 (by decide +kernel) (by decide +kernel)
theorem cd_X12_faded : Cond.code yX12_faded cX12_faded 1 (some .int) ∈ tblG := tg 1479 (by decide +kernel) (by decide +kernel)
theorem gW_X12_faded : GoodIn tblG (wsG yX12_faded cX12_faded 1 (some .int)) := tgi cd_X12_faded
theorem gV_L_66 : GoodIn tblG (wsV RL 66 RX12 yX12_faded (wsG yX12_faded cX12_faded 1 (some .int))) := tgV ml_L_66 im_X12_faded se_X12_faded ini_X12 gW_X12_faded
theorem hv_X12_faded : yX12_faded.cls = RX12 ∧ yX12_faded.cls ≠ "java/lang/invoke/MethodHandle" ∧ yX12_faded.cls ≠ "java/lang/invoke/VarHandle" ∧ (parseMethodDescriptor yX12_faded.desc).map (fun d => d.parameters.length) = some 0 := by decide +kernel
theorem ml_L_70 : Cond.methodLink RL 70 yX12_law ∈ tblG := tg 1496 (by decide +kernel) (by decide +kernel)
theorem im_X12_law : Cond.instanceMethod yX12_law ∈ tblG := tg 1497 (by decide +kernel) (by decide +kernel)
theorem se_X12_law : Cond.selects RX12 yX12_law yX12_law ∈ tblG := tg 1498 (by decide +kernel) (by decide +kernel)
theorem cd_X12_law : Cond.code yX12_law cX12_law 3 (some .int) ∈ tblG := tg 1499 (by decide +kernel) (by decide +kernel)
theorem gW_X12_law : GoodIn tblG (wsG yX12_law cX12_law 3 (some .int)) := tgi cd_X12_law
theorem gV_L_70 : GoodIn tblG (wsV RL 70 RX12 yX12_law (wsG yX12_law cX12_law 3 (some .int))) := tgV ml_L_70 im_X12_law se_X12_law ini_X12 gW_X12_law
theorem hv_X12_law : yX12_law.cls = RX12 ∧ yX12_law.cls ≠ "java/lang/invoke/MethodHandle" ∧ yX12_law.cls ≠ "java/lang/invoke/VarHandle" ∧ (parseMethodDescriptor yX12_law.desc).map (fun d => d.parameters.length) = some 0 := by decide +kernel
theorem ml_L_74 : Cond.methodLink RL 74 yX12_fault ∈ tblG := tg 1492 (by decide +kernel) (by decide +kernel)
theorem im_X12_fault : Cond.instanceMethod yX12_fault ∈ tblG := tg 1493 (by decide +kernel) (by decide +kernel)
theorem se_X12_fault : Cond.selects RX12 yX12_fault yX12_fault ∈ tblG := tg 1494 (by decide +kernel) (by decide +kernel)
theorem cd_X12_fault : Cond.code yX12_fault cX12_fault 1 (some .int) ∈ tblG := tg 1495 (by decide +kernel) (by decide +kernel)
theorem gW_X12_fault : GoodIn tblG (wsG yX12_fault cX12_fault 1 (some .int)) := tgi cd_X12_fault
theorem gV_L_74 : GoodIn tblG (wsV RL 74 RX12 yX12_fault (wsG yX12_fault cX12_fault 1 (some .int))) := tgV ml_L_74 im_X12_fault se_X12_fault ini_X12 gW_X12_fault
theorem hv_X12_fault : yX12_fault.cls = RX12 ∧ yX12_fault.cls ≠ "java/lang/invoke/MethodHandle" ∧ yX12_fault.cls ≠ "java/lang/invoke/VarHandle" ∧ (parseMethodDescriptor yX12_fault.desc).map (fun d => d.parameters.length) = some 0 := by decide +kernel
theorem ml_L_78 : Cond.methodLink RL 78 yX12_force ∈ tblG := tg 1595 (by decide +kernel) (by decide +kernel)
theorem im_X12_force : Cond.instanceMethod yX12_force ∈ tblG := tg 1596 (by decide +kernel) (by decide +kernel)
theorem se_X12_force : Cond.selects RX12 yX12_force yX12_force ∈ tblG := tg 1597 (by decide +kernel) (by decide +kernel)
theorem cd_X12_force : Cond.code yX12_force cX12_force 2 (some .int) ∈ tblG := tg 1598 (by decide +kernel) (by decide +kernel)
theorem gW_X12_force : GoodIn tblG (wsG yX12_force cX12_force 2 (some .int)) := tgi cd_X12_force
theorem gV_L_78 : GoodIn tblG (wsV RL 78 RX12 yX12_force (wsG yX12_force cX12_force 2 (some .int))) := tgV ml_L_78 im_X12_force se_X12_force ini_X12 gW_X12_force
theorem hv_X12_force : yX12_force.cls = RX12 ∧ yX12_force.cls ≠ "java/lang/invoke/MethodHandle" ∧ yX12_force.cls ≠ "java/lang/invoke/VarHandle" ∧ (parseMethodDescriptor yX12_force.desc).map (fun d => d.parameters.length) = some 1 := by decide +kernel
theorem ml_L_82 : Cond.methodLink RL 82 yX12_look ∈ tblG := tg 1599 (by decide +kernel) (by decide +kernel)
theorem im_X12_look : Cond.instanceMethod yX12_look ∈ tblG := tg 1600 (by decide +kernel) (by decide +kernel)
theorem se_X12_look : Cond.selects RX12 yX12_look yX12_look ∈ tblG := tg 1601 (by decide +kernel) (by decide +kernel)
theorem cd_X12_look : Cond.code yX12_look cX12_look 5 (some .int) ∈ tblG := tg 1602 (by decide +kernel) (by decide +kernel)
theorem gW_X12_look : GoodIn tblG (wsG yX12_look cX12_look 5 (some .int)) := tgi cd_X12_look
theorem gV_L_82 : GoodIn tblG (wsV RL 82 RX12 yX12_look (wsG yX12_look cX12_look 5 (some .int))) := tgV ml_L_82 im_X12_look se_X12_look ini_X12 gW_X12_look
theorem hv_X12_look : yX12_look.cls = RX12 ∧ yX12_look.cls ≠ "java/lang/invoke/MethodHandle" ∧ yX12_look.cls ≠ "java/lang/invoke/VarHandle" ∧ (parseMethodDescriptor yX12_look.desc).map (fun d => d.parameters.length) = some 4 := by decide +kernel
theorem ml_L_86 : Cond.methodLink RL 86 yX12_point ∈ tblG := tg 1651 (by decide +kernel) (by decide +kernel)
theorem im_X12_point : Cond.instanceMethod yX12_point ∈ tblG := tg 1652 (by decide +kernel) (by decide +kernel)
theorem se_X12_point : Cond.selects RX12 yX12_point yX12_point ∈ tblG := tg 1653 (by decide +kernel) (by decide +kernel)
theorem cd_X12_point : Cond.code yX12_point cX12_point 5 (some .int) ∈ tblG := tg 1654 (by decide +kernel) (by decide +kernel)
theorem gW_X12_point : GoodIn tblG (wsG yX12_point cX12_point 5 (some .int)) := tgi cd_X12_point
theorem gV_L_86 : GoodIn tblG (wsV RL 86 RX12 yX12_point (wsG yX12_point cX12_point 5 (some .int))) := tgV ml_L_86 im_X12_point se_X12_point ini_X12 gW_X12_point
theorem hv_X12_point : yX12_point.cls = RX12 ∧ yX12_point.cls ≠ "java/lang/invoke/MethodHandle" ∧ yX12_point.cls ≠ "java/lang/invoke/VarHandle" ∧ (parseMethodDescriptor yX12_point.desc).map (fun d => d.parameters.length) = some 4 := by decide +kernel
theorem ml_L_90 : Cond.methodLink RL 90 yX12_sees ∈ tblG := tg 1655 (by decide +kernel) (by decide +kernel)
theorem im_X12_sees : Cond.instanceMethod yX12_sees ∈ tblG := tg 1656 (by decide +kernel) (by decide +kernel)
theorem se_X12_sees : Cond.selects RX12 yX12_sees yX12_sees ∈ tblG := tg 1657 (by decide +kernel) (by decide +kernel)
theorem cd_X12_sees : Cond.code yX12_sees cX12_sees 3 (some .int) ∈ tblG := tg 1658 (by decide +kernel) (by decide +kernel)
theorem gW_X12_sees : GoodIn tblG (wsG yX12_sees cX12_sees 3 (some .int)) := tgi cd_X12_sees
theorem gV_L_90 : GoodIn tblG (wsV RL 90 RX12 yX12_sees (wsG yX12_sees cX12_sees 3 (some .int))) := tgV ml_L_90 im_X12_sees se_X12_sees ini_X12 gW_X12_sees
theorem hv_X12_sees : yX12_sees.cls = RX12 ∧ yX12_sees.cls ≠ "java/lang/invoke/MethodHandle" ∧ yX12_sees.cls ≠ "java/lang/invoke/VarHandle" ∧ (parseMethodDescriptor yX12_sees.desc).map (fun d => d.parameters.length) = some 2 := by decide +kernel
theorem ml_L_94 : Cond.methodLink RL 94 yX12_late ∈ tblG := tg 1663 (by decide +kernel) (by decide +kernel)
theorem im_X12_late : Cond.instanceMethod yX12_late ∈ tblG := tg 1664 (by decide +kernel) (by decide +kernel)
theorem se_X12_late : Cond.selects RX12 yX12_late yX12_late ∈ tblG := tg 1665 (by decide +kernel) (by decide +kernel)
theorem cd_X12_late : Cond.code yX12_late cX12_late 4 (some .int) ∈ tblG := tg 1666 (by decide +kernel) (by decide +kernel)
theorem gW_X12_late : GoodIn tblG (wsG yX12_late cX12_late 4 (some .int)) := tgi cd_X12_late
theorem gV_L_94 : GoodIn tblG (wsV RL 94 RX12 yX12_late (wsG yX12_late cX12_late 4 (some .int))) := tgV ml_L_94 im_X12_late se_X12_late ini_X12 gW_X12_late
theorem hv_X12_late : yX12_late.cls = RX12 ∧ yX12_late.cls ≠ "java/lang/invoke/MethodHandle" ∧ yX12_late.cls ≠ "java/lang/invoke/VarHandle" ∧ (parseMethodDescriptor yX12_late.desc).map (fun d => d.parameters.length) = some 3 := by decide +kernel
theorem ml_L_98 : Cond.methodLink RL 98 yX12_first ∈ tblG := tg 1671 (by decide +kernel) (by decide +kernel)
theorem im_X12_first : Cond.instanceMethod yX12_first ∈ tblG := tg 1672 (by decide +kernel) (by decide +kernel)
theorem se_X12_first : Cond.selects RX12 yX12_first yX12_first ∈ tblG := tg 1673 (by decide +kernel) (by decide +kernel)
theorem cd_X12_first : Cond.code yX12_first cX12_first 6 (some .int) ∈ tblG := tg 1674 (by decide +kernel) (by decide +kernel)
theorem gW_X12_first : GoodIn tblG (wsG yX12_first cX12_first 6 (some .int)) := tgi cd_X12_first
theorem gV_L_98 : GoodIn tblG (wsV RL 98 RX12 yX12_first (wsG yX12_first cX12_first 6 (some .int))) := tgV ml_L_98 im_X12_first se_X12_first ini_X12 gW_X12_first
theorem hv_X12_first : yX12_first.cls = RX12 ∧ yX12_first.cls ≠ "java/lang/invoke/MethodHandle" ∧ yX12_first.cls ≠ "java/lang/invoke/VarHandle" ∧ (parseMethodDescriptor yX12_first.desc).map (fun d => d.parameters.length) = some 2 := by decide +kernel
theorem ml_L_102 : Cond.methodLink RL 102 yX12_lit ∈ tblG := tg 1676 (by decide +kernel) (by decide +kernel)
theorem im_X12_lit : Cond.instanceMethod yX12_lit ∈ tblG := tg 1677 (by decide +kernel) (by decide +kernel)
theorem se_X12_lit : Cond.selects RX12 yX12_lit yX12_lit ∈ tblG := tg 1678 (by decide +kernel) (by decide +kernel)
theorem cd_X12_lit : Cond.code yX12_lit cX12_lit 8 (some .int) ∈ tblG := tg 1679 (by decide +kernel) (by decide +kernel)
theorem gW_X12_lit : GoodIn tblG (wsG yX12_lit cX12_lit 8 (some .int)) := tgi cd_X12_lit
theorem gV_L_102 : GoodIn tblG (wsV RL 102 RX12 yX12_lit (wsG yX12_lit cX12_lit 8 (some .int))) := tgV ml_L_102 im_X12_lit se_X12_lit ini_X12 gW_X12_lit
theorem hv_X12_lit : yX12_lit.cls = RX12 ∧ yX12_lit.cls ≠ "java/lang/invoke/MethodHandle" ∧ yX12_lit.cls ≠ "java/lang/invoke/VarHandle" ∧ (parseMethodDescriptor yX12_lit.desc).map (fun d => d.parameters.length) = some 3 := by decide +kernel
theorem ml_L_106 : Cond.methodLink RL 106 yX12_unseen ∈ tblG := tg 1688 (by decide +kernel) (by decide +kernel)
theorem im_X12_unseen : Cond.instanceMethod yX12_unseen ∈ tblG := tg 1689 (by decide +kernel) (by decide +kernel)
theorem se_X12_unseen : Cond.selects RX12 yX12_unseen yX12_unseen ∈ tblG := tg 1690 (by decide +kernel) (by decide +kernel)
theorem cd_X12_unseen : Cond.code yX12_unseen cX12_unseen 4 (some .int) ∈ tblG := tg 1691 (by decide +kernel) (by decide +kernel)
theorem gW_X12_unseen : GoodIn tblG (wsG yX12_unseen cX12_unseen 4 (some .int)) := tgi cd_X12_unseen
theorem gV_L_106 : GoodIn tblG (wsV RL 106 RX12 yX12_unseen (wsG yX12_unseen cX12_unseen 4 (some .int))) := tgV ml_L_106 im_X12_unseen se_X12_unseen ini_X12 gW_X12_unseen
theorem hv_X12_unseen : yX12_unseen.cls = RX12 ∧ yX12_unseen.cls ≠ "java/lang/invoke/MethodHandle" ∧ yX12_unseen.cls ≠ "java/lang/invoke/VarHandle" ∧ (parseMethodDescriptor yX12_unseen.desc).map (fun d => d.parameters.length) = some 1 := by decide +kernel
theorem ml_L_110 : Cond.methodLink RL 110 yX12_sighting ∈ tblG := tg 1696 (by decide +kernel) (by decide +kernel)
theorem im_X12_sighting : Cond.instanceMethod yX12_sighting ∈ tblG := tg 1697 (by decide +kernel) (by decide +kernel)
theorem se_X12_sighting : Cond.selects RX12 yX12_sighting yX12_sighting ∈ tblG := tg 1698 (by decide +kernel) (by decide +kernel)
theorem cd_X12_sighting : Cond.code yX12_sighting cX12_sighting 8 (some .int) ∈ tblG := tg 1699 (by decide +kernel) (by decide +kernel)
theorem gW_X12_sighting : GoodIn tblG (wsG yX12_sighting cX12_sighting 8 (some .int)) := tgi cd_X12_sighting
theorem gV_L_110 : GoodIn tblG (wsV RL 110 RX12 yX12_sighting (wsG yX12_sighting cX12_sighting 8 (some .int))) := tgV ml_L_110 im_X12_sighting se_X12_sighting ini_X12 gW_X12_sighting
theorem hv_X12_sighting : yX12_sighting.cls = RX12 ∧ yX12_sighting.cls ≠ "java/lang/invoke/MethodHandle" ∧ yX12_sighting.cls ≠ "java/lang/invoke/VarHandle" ∧ (parseMethodDescriptor yX12_sighting.desc).map (fun d => d.parameters.length) = some 4 := by decide +kernel
theorem ml_L_114 : Cond.methodLink RL 114 yX12_drop ∈ tblG := tg 1700 (by decide +kernel) (by decide +kernel)
theorem im_X12_drop : Cond.instanceMethod yX12_drop ∈ tblG := tg 1701 (by decide +kernel) (by decide +kernel)
theorem se_X12_drop : Cond.selects RX12 yX12_drop yX12_drop ∈ tblG := tg 1702 (by decide +kernel) (by decide +kernel)
theorem cd_X12_drop : Cond.code yX12_drop cX12_drop 3 (some .int) ∈ tblG := tg 1703 (by decide +kernel) (by decide +kernel)
theorem gW_X12_drop : GoodIn tblG (wsG yX12_drop cX12_drop 3 (some .int)) := tgi cd_X12_drop
theorem gV_L_114 : GoodIn tblG (wsV RL 114 RX12 yX12_drop (wsG yX12_drop cX12_drop 3 (some .int))) := tgV ml_L_114 im_X12_drop se_X12_drop ini_X12 gW_X12_drop
theorem hv_X12_drop : yX12_drop.cls = RX12 ∧ yX12_drop.cls ≠ "java/lang/invoke/MethodHandle" ∧ yX12_drop.cls ≠ "java/lang/invoke/VarHandle" ∧ (parseMethodDescriptor yX12_drop.desc).map (fun d => d.parameters.length) = some 1 := by decide +kernel
theorem ml_L_118 : Cond.methodLink RL 118 yX12_start ∈ tblG := tg 1704 (by decide +kernel) (by decide +kernel)
theorem im_X12_start : Cond.instanceMethod yX12_start ∈ tblG := tg 1705 (by decide +kernel) (by decide +kernel)
theorem se_X12_start : Cond.selects RX12 yX12_start yX12_start ∈ tblG := tg 1706 (by decide +kernel) (by decide +kernel)
theorem cd_X12_start : Cond.code yX12_start cX12_start 2 (some .int) ∈ tblG := tg 1707 (by decide +kernel) (by decide +kernel)
theorem gW_X12_start : GoodIn tblG (wsG yX12_start cX12_start 2 (some .int)) := tgi cd_X12_start
theorem gV_L_118 : GoodIn tblG (wsV RL 118 RX12 yX12_start (wsG yX12_start cX12_start 2 (some .int))) := tgV ml_L_118 im_X12_start se_X12_start ini_X12 gW_X12_start
theorem hv_X12_start : yX12_start.cls = RX12 ∧ yX12_start.cls ≠ "java/lang/invoke/MethodHandle" ∧ yX12_start.cls ≠ "java/lang/invoke/VarHandle" ∧ (parseMethodDescriptor yX12_start.desc).map (fun d => d.parameters.length) = some 1 := by decide +kernel
theorem ml_L_123 : Cond.methodLink RL 123 yX12_fits_ ∈ tblG := tg 1708 (by decide +kernel) (by decide +kernel)
theorem im_X12_fits_ : Cond.instanceMethod yX12_fits_ ∈ tblG := tg 1709 (by decide +kernel) (by decide +kernel)
theorem se_X12_fits_ : Cond.selects RX12 yX12_fits_ yX12_fits_ ∈ tblG := tg 1710 (by decide +kernel) (by decide +kernel)
theorem cd_X12_fits_ : Cond.code yX12_fits_ cX12_fits_ 1 (some .long) ∈ tblG := tg 1711 (by decide +kernel) (by decide +kernel)
theorem gW_X12_fits_ : GoodIn tblG (wsG yX12_fits_ cX12_fits_ 1 (some .long)) := tgi cd_X12_fits_
theorem gV_L_123 : GoodIn tblG (wsV RL 123 RX12 yX12_fits_ (wsG yX12_fits_ cX12_fits_ 1 (some .long))) := tgV ml_L_123 im_X12_fits_ se_X12_fits_ ini_X12 gW_X12_fits_
theorem hv_X12_fits_ : yX12_fits_.cls = RX12 ∧ yX12_fits_.cls ≠ "java/lang/invoke/MethodHandle" ∧ yX12_fits_.cls ≠ "java/lang/invoke/VarHandle" ∧ (parseMethodDescriptor yX12_fits_.desc).map (fun d => d.parameters.length) = some 0 := by decide +kernel
theorem ml_L_128 : Cond.methodLink RL 128 yX12_could ∈ tblG := tg 1760 (by decide +kernel) (by decide +kernel)
theorem im_X12_could : Cond.instanceMethod yX12_could ∈ tblG := tg 1761 (by decide +kernel) (by decide +kernel)
theorem se_X12_could : Cond.selects RX12 yX12_could yX12_could ∈ tblG := tg 1762 (by decide +kernel) (by decide +kernel)
theorem cd_X12_could : Cond.code yX12_could cX12_could 6 (some .long) ∈ tblG := tg 1763 (by decide +kernel) (by decide +kernel)
theorem gW_X12_could : GoodIn tblG (wsG yX12_could cX12_could 6 (some .long)) := tgi cd_X12_could
theorem gV_L_128 : GoodIn tblG (wsV RL 128 RX12 yX12_could (wsG yX12_could cX12_could 6 (some .long))) := tgV ml_L_128 im_X12_could se_X12_could ini_X12 gW_X12_could
theorem hv_X12_could : yX12_could.cls = RX12 ∧ yX12_could.cls ≠ "java/lang/invoke/MethodHandle" ∧ yX12_could.cls ≠ "java/lang/invoke/VarHandle" ∧ (parseMethodDescriptor yX12_could.desc).map (fun d => d.parameters.length) = some 2 := by decide +kernel
theorem ml_L_132 : Cond.methodLink RL 132 yX12_path ∈ tblG := tg 1764 (by decide +kernel) (by decide +kernel)
theorem im_X12_path : Cond.instanceMethod yX12_path ∈ tblG := tg 1765 (by decide +kernel) (by decide +kernel)
theorem se_X12_path : Cond.selects RX12 yX12_path yX12_path ∈ tblG := tg 1766 (by decide +kernel) (by decide +kernel)
theorem cd_X12_path : Cond.code yX12_path cX12_path 8 (some .int) ∈ tblG := tg 1767 (by decide +kernel) (by decide +kernel)
theorem gW_X12_path : GoodIn tblG (wsG yX12_path cX12_path 8 (some .int)) := tgi cd_X12_path
theorem gV_L_132 : GoodIn tblG (wsV RL 132 RX12 yX12_path (wsG yX12_path cX12_path 8 (some .int))) := tgV ml_L_132 im_X12_path se_X12_path ini_X12 gW_X12_path
theorem hv_X12_path : yX12_path.cls = RX12 ∧ yX12_path.cls ≠ "java/lang/invoke/MethodHandle" ∧ yX12_path.cls ≠ "java/lang/invoke/VarHandle" ∧ (parseMethodDescriptor yX12_path.desc).map (fun d => d.parameters.length) = some 1 := by decide +kernel
theorem ml_L_136 : Cond.methodLink RL 136 yX12_core ∈ tblG := tg 1744 (by decide +kernel) (by decide +kernel)
theorem im_X12_core : Cond.instanceMethod yX12_core ∈ tblG := tg 1745 (by decide +kernel) (by decide +kernel)
theorem se_X12_core : Cond.selects RX12 yX12_core yX12_core ∈ tblG := tg 1746 (by decide +kernel) (by decide +kernel)
theorem cd_X12_core : Cond.code yX12_core cX12_core 3 (some .int) ∈ tblG := tg 1747 (by decide +kernel) (by decide +kernel)
theorem gW_X12_core : GoodIn tblG (wsG yX12_core cX12_core 3 (some .int)) := tgi cd_X12_core
theorem gV_L_136 : GoodIn tblG (wsV RL 136 RX12 yX12_core (wsG yX12_core cX12_core 3 (some .int))) := tgV ml_L_136 im_X12_core se_X12_core ini_X12 gW_X12_core
theorem hv_X12_core : yX12_core.cls = RX12 ∧ yX12_core.cls ≠ "java/lang/invoke/MethodHandle" ∧ yX12_core.cls ≠ "java/lang/invoke/VarHandle" ∧ (parseMethodDescriptor yX12_core.desc).map (fun d => d.parameters.length) = some 0 := by decide +kernel
theorem ml_L_141 : Cond.methodLink RL 141 yX12_tells ∈ tblG := tg 1752 (by decide +kernel) (by decide +kernel)
theorem im_X12_tells : Cond.instanceMethod yX12_tells ∈ tblG := tg 1753 (by decide +kernel) (by decide +kernel)
theorem se_X12_tells : Cond.selects RX12 yX12_tells yX12_tells ∈ tblG := tg 1754 (by decide +kernel) (by decide +kernel)
theorem cd_X12_tells : Cond.code yX12_tells cX12_tells 6 (some .long) ∈ tblG := tg 1755 (by decide +kernel) (by decide +kernel)
theorem gW_X12_tells : GoodIn tblG (wsG yX12_tells cX12_tells 6 (some .long)) := tgi cd_X12_tells
theorem gV_L_141 : GoodIn tblG (wsV RL 141 RX12 yX12_tells (wsG yX12_tells cX12_tells 6 (some .long))) := tgV ml_L_141 im_X12_tells se_X12_tells ini_X12 gW_X12_tells
theorem hv_X12_tells : yX12_tells.cls = RX12 ∧ yX12_tells.cls ≠ "java/lang/invoke/MethodHandle" ∧ yX12_tells.cls ≠ "java/lang/invoke/VarHandle" ∧ (parseMethodDescriptor yX12_tells.desc).map (fun d => d.parameters.length) = some 3 := by decide +kernel
theorem ml_L_145 : Cond.methodLink RL 145 yX12_surely ∈ tblG := tg 1756 (by decide +kernel) (by decide +kernel)
theorem im_X12_surely : Cond.instanceMethod yX12_surely ∈ tblG := tg 1757 (by decide +kernel) (by decide +kernel)
theorem se_X12_surely : Cond.selects RX12 yX12_surely yX12_surely ∈ tblG := tg 1758 (by decide +kernel) (by decide +kernel)
theorem cd_X12_surely : Cond.code yX12_surely cX12_surely 5 (some .int) ∈ tblG := tg 1759 (by decide +kernel) (by decide +kernel)
theorem gW_X12_surely : GoodIn tblG (wsG yX12_surely cX12_surely 5 (some .int)) := tgi cd_X12_surely
theorem gV_L_145 : GoodIn tblG (wsV RL 145 RX12 yX12_surely (wsG yX12_surely cX12_surely 5 (some .int))) := tgV ml_L_145 im_X12_surely se_X12_surely ini_X12 gW_X12_surely
theorem hv_X12_surely : yX12_surely.cls = RX12 ∧ yX12_surely.cls ≠ "java/lang/invoke/MethodHandle" ∧ yX12_surely.cls ≠ "java/lang/invoke/VarHandle" ∧ (parseMethodDescriptor yX12_surely.desc).map (fun d => d.parameters.length) = some 1 := by decide +kernel
theorem ml_L_149 : Cond.methodLink RL 149 yX12_spot ∈ tblG := tg 1771 (by decide +kernel) (by decide +kernel)
theorem im_X12_spot : Cond.instanceMethod yX12_spot ∈ tblG := tg 1772 (by decide +kernel) (by decide +kernel)
theorem se_X12_spot : Cond.selects RX12 yX12_spot yX12_spot ∈ tblG := tg 1773 (by decide +kernel) (by decide +kernel)
theorem cd_X12_spot : Cond.code yX12_spot cX12_spot 5 (some .int) ∈ tblG := tg 1774 (by decide +kernel) (by decide +kernel)
theorem gW_X12_spot : GoodIn tblG (wsG yX12_spot cX12_spot 5 (some .int)) := tgi cd_X12_spot
theorem gV_L_149 : GoodIn tblG (wsV RL 149 RX12 yX12_spot (wsG yX12_spot cX12_spot 5 (some .int))) := tgV ml_L_149 im_X12_spot se_X12_spot ini_X12 gW_X12_spot
theorem hv_X12_spot : yX12_spot.cls = RX12 ∧ yX12_spot.cls ≠ "java/lang/invoke/MethodHandle" ∧ yX12_spot.cls ≠ "java/lang/invoke/VarHandle" ∧ (parseMethodDescriptor yX12_spot.desc).map (fun d => d.parameters.length) = some 3 := by decide +kernel
theorem ml_L_154 : Cond.methodLink RL 154 yX12_wish ∈ tblG := tg 1775 (by decide +kernel) (by decide +kernel)
theorem im_X12_wish : Cond.instanceMethod yX12_wish ∈ tblG := tg 1776 (by decide +kernel) (by decide +kernel)
theorem se_X12_wish : Cond.selects RX12 yX12_wish yX12_wish ∈ tblG := tg 1777 (by decide +kernel) (by decide +kernel)
theorem cd_X12_wish : Cond.code yX12_wish cX12_wish 9 (some .int) ∈ tblG := tg 1778 (by decide +kernel) (by decide +kernel)
theorem gW_X12_wish : GoodIn tblG (wsG yX12_wish cX12_wish 9 (some .int)) := tgi cd_X12_wish
theorem gV_L_154 : GoodIn tblG (wsV RL 154 RX12 yX12_wish (wsG yX12_wish cX12_wish 9 (some .int))) := tgV ml_L_154 im_X12_wish se_X12_wish ini_X12 gW_X12_wish
theorem hv_X12_wish : yX12_wish.cls = RX12 ∧ yX12_wish.cls ≠ "java/lang/invoke/MethodHandle" ∧ yX12_wish.cls ≠ "java/lang/invoke/VarHandle" ∧ (parseMethodDescriptor yX12_wish.desc).map (fun d => d.parameters.length) = some 6 := by decide +kernel
theorem ml_L_158 : Cond.methodLink RL 158 yX12_lacks ∈ tblG := tg 1779 (by decide +kernel) (by decide +kernel)
theorem im_X12_lacks : Cond.instanceMethod yX12_lacks ∈ tblG := tg 1780 (by decide +kernel) (by decide +kernel)
theorem se_X12_lacks : Cond.selects RX12 yX12_lacks yX12_lacks ∈ tblG := tg 1781 (by decide +kernel) (by decide +kernel)
theorem cd_X12_lacks : Cond.code yX12_lacks cX12_lacks 2 (some .int) ∈ tblG := tg 1782 (by decide +kernel) (by decide +kernel)
theorem gW_X12_lacks : GoodIn tblG (wsG yX12_lacks cX12_lacks 2 (some .int)) := tgi cd_X12_lacks
theorem gV_L_158 : GoodIn tblG (wsV RL 158 RX12 yX12_lacks (wsG yX12_lacks cX12_lacks 2 (some .int))) := tgV ml_L_158 im_X12_lacks se_X12_lacks ini_X12 gW_X12_lacks
theorem hv_X12_lacks : yX12_lacks.cls = RX12 ∧ yX12_lacks.cls ≠ "java/lang/invoke/MethodHandle" ∧ yX12_lacks.cls ≠ "java/lang/invoke/VarHandle" ∧ (parseMethodDescriptor yX12_lacks.desc).map (fun d => d.parameters.length) = some 1 := by decide +kernel
theorem ml_L_162 : Cond.methodLink RL 162 yX12_hang ∈ tblG := tg 1791 (by decide +kernel) (by decide +kernel)
theorem im_X12_hang : Cond.instanceMethod yX12_hang ∈ tblG := tg 1792 (by decide +kernel) (by decide +kernel)
theorem se_X12_hang : Cond.selects RX12 yX12_hang yX12_hang ∈ tblG := tg 1793 (by decide +kernel) (by decide +kernel)
theorem cd_X12_hang : Cond.code yX12_hang cX12_hang 7 (some .int) ∈ tblG := tg 1794 (by decide +kernel) (by decide +kernel)
theorem gW_X12_hang : GoodIn tblG (wsG yX12_hang cX12_hang 7 (some .int)) := tgi cd_X12_hang
theorem gV_L_162 : GoodIn tblG (wsV RL 162 RX12 yX12_hang (wsG yX12_hang cX12_hang 7 (some .int))) := tgV ml_L_162 im_X12_hang se_X12_hang ini_X12 gW_X12_hang
theorem hv_X12_hang : yX12_hang.cls = RX12 ∧ yX12_hang.cls ≠ "java/lang/invoke/MethodHandle" ∧ yX12_hang.cls ≠ "java/lang/invoke/VarHandle" ∧ (parseMethodDescriptor yX12_hang.desc).map (fun d => d.parameters.length) = some 1 := by decide +kernel
theorem ml_L_166 : Cond.methodLink RL 166 yX12_soonest ∈ tblG := tg 1798 (by decide +kernel) (by decide +kernel)
theorem im_X12_soonest : Cond.instanceMethod yX12_soonest ∈ tblG := tg 1799 (by decide +kernel) (by decide +kernel)
theorem se_X12_soonest : Cond.selects RX12 yX12_soonest yX12_soonest ∈ tblG := tg 1800 (by decide +kernel) (by decide +kernel)
theorem cd_X12_soonest : Cond.code yX12_soonest cX12_soonest 4 (some .int) ∈ tblG := tg 1801 (by decide +kernel) (by decide +kernel)
theorem gW_X12_soonest : GoodIn tblG (wsG yX12_soonest cX12_soonest 4 (some .int)) := tgi cd_X12_soonest
theorem gV_L_166 : GoodIn tblG (wsV RL 166 RX12 yX12_soonest (wsG yX12_soonest cX12_soonest 4 (some .int))) := tgV ml_L_166 im_X12_soonest se_X12_soonest ini_X12 gW_X12_soonest
theorem hv_X12_soonest : yX12_soonest.cls = RX12 ∧ yX12_soonest.cls ≠ "java/lang/invoke/MethodHandle" ∧ yX12_soonest.cls ≠ "java/lang/invoke/VarHandle" ∧ (parseMethodDescriptor yX12_soonest.desc).map (fun d => d.parameters.length) = some 3 := by decide +kernel
theorem ml_L_170 : Cond.methodLink RL 170 yX12_way ∈ tblG := tg 1806 (by decide +kernel) (by decide +kernel)
theorem im_X12_way : Cond.instanceMethod yX12_way ∈ tblG := tg 1807 (by decide +kernel) (by decide +kernel)
theorem se_X12_way : Cond.selects RX12 yX12_way yX12_way ∈ tblG := tg 1808 (by decide +kernel) (by decide +kernel)
theorem cd_X12_way : Cond.code yX12_way cX12_way 10 (some .int) ∈ tblG := tg 1809 (by decide +kernel) (by decide +kernel)
theorem gW_X12_way : GoodIn tblG (wsG yX12_way cX12_way 10 (some .int)) := tgi cd_X12_way
theorem gV_L_170 : GoodIn tblG (wsV RL 170 RX12 yX12_way (wsG yX12_way cX12_way 10 (some .int))) := tgV ml_L_170 im_X12_way se_X12_way ini_X12 gW_X12_way
theorem hv_X12_way : yX12_way.cls = RX12 ∧ yX12_way.cls ≠ "java/lang/invoke/MethodHandle" ∧ yX12_way.cls ≠ "java/lang/invoke/VarHandle" ∧ (parseMethodDescriptor yX12_way.desc).map (fun d => d.parameters.length) = some 4 := by decide +kernel
theorem ml_L_174 : Cond.methodLink RL 174 yX12_sooner ∈ tblG := tg 1810 (by decide +kernel) (by decide +kernel)
theorem im_X12_sooner : Cond.instanceMethod yX12_sooner ∈ tblG := tg 1811 (by decide +kernel) (by decide +kernel)
theorem se_X12_sooner : Cond.selects RX12 yX12_sooner yX12_sooner ∈ tblG := tg 1812 (by decide +kernel) (by decide +kernel)
theorem cd_X12_sooner : Cond.code yX12_sooner cX12_sooner 12 (some .int) ∈ tblG := tg 1813 (by decide +kernel) (by decide +kernel)
theorem gW_X12_sooner : GoodIn tblG (wsG yX12_sooner cX12_sooner 12 (some .int)) := tgi cd_X12_sooner
theorem gV_L_174 : GoodIn tblG (wsV RL 174 RX12 yX12_sooner (wsG yX12_sooner cX12_sooner 12 (some .int))) := tgV ml_L_174 im_X12_sooner se_X12_sooner ini_X12 gW_X12_sooner
theorem hv_X12_sooner : yX12_sooner.cls = RX12 ∧ yX12_sooner.cls ≠ "java/lang/invoke/MethodHandle" ∧ yX12_sooner.cls ≠ "java/lang/invoke/VarHandle" ∧ (parseMethodDescriptor yX12_sooner.desc).map (fun d => d.parameters.length) = some 4 := by decide +kernel
theorem ml_L_178 : Cond.methodLink RL 178 yX12_wander ∈ tblG := tg 1814 (by decide +kernel) (by decide +kernel)
theorem im_X12_wander : Cond.instanceMethod yX12_wander ∈ tblG := tg 1815 (by decide +kernel) (by decide +kernel)
theorem se_X12_wander : Cond.selects RX12 yX12_wander yX12_wander ∈ tblG := tg 1816 (by decide +kernel) (by decide +kernel)
theorem cd_X12_wander : Cond.code yX12_wander cX12_wander 7 (some .int) ∈ tblG := tg 1817 (by decide +kernel) (by decide +kernel)
theorem gW_X12_wander : GoodIn tblG (wsG yX12_wander cX12_wander 7 (some .int)) := tgi cd_X12_wander
theorem gV_L_178 : GoodIn tblG (wsV RL 178 RX12 yX12_wander (wsG yX12_wander cX12_wander 7 (some .int))) := tgV ml_L_178 im_X12_wander se_X12_wander ini_X12 gW_X12_wander
theorem hv_X12_wander : yX12_wander.cls = RX12 ∧ yX12_wander.cls ≠ "java/lang/invoke/MethodHandle" ∧ yX12_wander.cls ≠ "java/lang/invoke/VarHandle" ∧ (parseMethodDescriptor yX12_wander.desc).map (fun d => d.parameters.length) = some 2 := by decide +kernel
theorem ml_L_182 : Cond.methodLink RL 182 yX12_drawn ∈ tblG := tg 1821 (by decide +kernel) (by decide +kernel)
theorem im_X12_drawn : Cond.instanceMethod yX12_drawn ∈ tblG := tg 1822 (by decide +kernel) (by decide +kernel)
theorem se_X12_drawn : Cond.selects RX12 yX12_drawn yX12_drawn ∈ tblG := tg 1823 (by decide +kernel) (by decide +kernel)
theorem cd_X12_drawn : Cond.code yX12_drawn cX12_drawn 2 (some .int) ∈ tblG := tg 1824 (by decide +kernel) (by decide +kernel)
theorem gW_X12_drawn : GoodIn tblG (wsG yX12_drawn cX12_drawn 2 (some .int)) := tgi cd_X12_drawn
theorem gV_L_182 : GoodIn tblG (wsV RL 182 RX12 yX12_drawn (wsG yX12_drawn cX12_drawn 2 (some .int))) := tgV ml_L_182 im_X12_drawn se_X12_drawn ini_X12 gW_X12_drawn
theorem hv_X12_drawn : yX12_drawn.cls = RX12 ∧ yX12_drawn.cls ≠ "java/lang/invoke/MethodHandle" ∧ yX12_drawn.cls ≠ "java/lang/invoke/VarHandle" ∧ (parseMethodDescriptor yX12_drawn.desc).map (fun d => d.parameters.length) = some 1 := by decide +kernel
theorem ml_L_186 : Cond.methodLink RL 186 yX12_image ∈ tblG := tg 1360 (by decide +kernel) (by decide +kernel)
theorem im_X12_image : Cond.instanceMethod yX12_image ∈ tblG := tg 1361 (by decide +kernel) (by decide +kernel)
theorem se_X12_image : Cond.selects RX12 yX12_image yX12_image ∈ tblG := tg 1362 (by decide +kernel) (by decide +kernel)
theorem cd_X12_image : Cond.code yX12_image cX12_image 3 (some .int) ∈ tblG := tg 1363 (by decide +kernel) (by decide +kernel)
theorem gW_X12_image : GoodIn tblG (wsG yX12_image cX12_image 3 (some .int)) := tgi cd_X12_image
theorem gV_L_186 : GoodIn tblG (wsV RL 186 RX12 yX12_image (wsG yX12_image cX12_image 3 (some .int))) := tgV ml_L_186 im_X12_image se_X12_image ini_X12 gW_X12_image
theorem hv_X12_image : yX12_image.cls = RX12 ∧ yX12_image.cls ≠ "java/lang/invoke/MethodHandle" ∧ yX12_image.cls ≠ "java/lang/invoke/VarHandle" ∧ (parseMethodDescriptor yX12_image.desc).map (fun d => d.parameters.length) = some 1 := by decide +kernel
theorem ml_L_190 : Cond.methodLink RL 190 yX12_back ∈ tblG := tg 1371 (by decide +kernel) (by decide +kernel)
theorem im_X12_back : Cond.instanceMethod yX12_back ∈ tblG := tg 1372 (by decide +kernel) (by decide +kernel)
theorem se_X12_back : Cond.selects RX12 yX12_back yX12_back ∈ tblG := tg 1373 (by decide +kernel) (by decide +kernel)
theorem cd_X12_back : Cond.code yX12_back cX12_back 3 (some .int) ∈ tblG := tg 1374 (by decide +kernel) (by decide +kernel)
theorem gW_X12_back : GoodIn tblG (wsG yX12_back cX12_back 3 (some .int)) := tgi cd_X12_back
theorem gV_L_190 : GoodIn tblG (wsV RL 190 RX12 yX12_back (wsG yX12_back cX12_back 3 (some .int))) := tgV ml_L_190 im_X12_back se_X12_back ini_X12 gW_X12_back
theorem hv_X12_back : yX12_back.cls = RX12 ∧ yX12_back.cls ≠ "java/lang/invoke/MethodHandle" ∧ yX12_back.cls ≠ "java/lang/invoke/VarHandle" ∧ (parseMethodDescriptor yX12_back.desc).map (fun d => d.parameters.length) = some 1 := by decide +kernel
theorem ml_L_194 : Cond.methodLink RL 194 yX12_count ∈ tblG := tg 1825 (by decide +kernel) (by decide +kernel)
theorem im_X12_count : Cond.instanceMethod yX12_count ∈ tblG := tg 1826 (by decide +kernel) (by decide +kernel)
theorem se_X12_count : Cond.selects RX12 yX12_count yX12_count ∈ tblG := tg 1827 (by decide +kernel) (by decide +kernel)
theorem cd_X12_count : Cond.code yX12_count cX12_count 4 (some .int) ∈ tblG := tg 1828 (by decide +kernel) (by decide +kernel)
theorem gW_X12_count : GoodIn tblG (wsG yX12_count cX12_count 4 (some .int)) := tgi cd_X12_count
theorem gV_L_194 : GoodIn tblG (wsV RL 194 RX12 yX12_count (wsG yX12_count cX12_count 4 (some .int))) := tgV ml_L_194 im_X12_count se_X12_count ini_X12 gW_X12_count
theorem hv_X12_count : yX12_count.cls = RX12 ∧ yX12_count.cls ≠ "java/lang/invoke/MethodHandle" ∧ yX12_count.cls ≠ "java/lang/invoke/VarHandle" ∧ (parseMethodDescriptor yX12_count.desc).map (fun d => d.parameters.length) = some 1 := by decide +kernel
theorem ml_L_198 : Cond.methodLink RL 198 yX12_status ∈ tblG := tg 1829 (by decide +kernel) (by decide +kernel)
theorem im_X12_status : Cond.instanceMethod yX12_status ∈ tblG := tg 1830 (by decide +kernel) (by decide +kernel)
theorem se_X12_status : Cond.selects RX12 yX12_status yX12_status ∈ tblG := tg 1831 (by decide +kernel) (by decide +kernel)
theorem cd_X12_status : Cond.code yX12_status cX12_status 1 (some .int) ∈ tblG := tg 1832 (by decide +kernel) (by decide +kernel)
theorem gW_X12_status : GoodIn tblG (wsG yX12_status cX12_status 1 (some .int)) := tgi cd_X12_status
theorem gV_L_198 : GoodIn tblG (wsV RL 198 RX12 yX12_status (wsG yX12_status cX12_status 1 (some .int))) := tgV ml_L_198 im_X12_status se_X12_status ini_X12 gW_X12_status
theorem hv_X12_status : yX12_status.cls = RX12 ∧ yX12_status.cls ≠ "java/lang/invoke/MethodHandle" ∧ yX12_status.cls ≠ "java/lang/invoke/VarHandle" ∧ (parseMethodDescriptor yX12_status.desc).map (fun d => d.parameters.length) = some 0 := by decide +kernel
theorem isn_X0 : Cond.instantiable RX0 5 ∈ tblG := tg 350 (by decide +kernel) (by decide +kernel)
theorem isn_X1 : Cond.instantiable RX1 13 ∈ tblG := tg 120 (by decide +kernel) (by decide +kernel)
theorem isn_X2 : Cond.instantiable RX2 2 ∈ tblG := tg 229 (by decide +kernel) (by decide +kernel)
theorem isn_X4 : Cond.instantiable RX4 8 ∈ tblG := tg 394 (by decide +kernel) (by decide +kernel)
theorem isn_X5 : Cond.instantiable RX5 13 ∈ tblG := tg 223 (by decide +kernel) (by decide +kernel)
theorem isn_X6 : Cond.instantiable RX6 4 ∈ tblG := tg 128 (by decide +kernel) (by decide +kernel)
theorem isn_X7 : Cond.instantiable RX7 10 ∈ tblG := tg 312 (by decide +kernel) (by decide +kernel)
theorem isn_X8 : Cond.instantiable RX8 3 ∈ tblG := tg 400 (by decide +kernel) (by decide +kernel)
theorem isn_X9 : Cond.instantiable RX9 4 ∈ tblG := tg 375 (by decide +kernel) (by decide +kernel)
theorem isn_X10 : Cond.instantiable RX10 3 ∈ tblG := tg 295 (by decide +kernel) (by decide +kernel)
theorem isn_X11 : Cond.instantiable RX11 17 ∈ tblG := tg 112 (by decide +kernel) (by decide +kernel)
theorem isn_X12 : Cond.instantiable RX12 52 ∈ tblG := tg 1185 (by decide +kernel) (by decide +kernel)
theorem acl_J : Cond.arrayClass .long ∈ tblG := tg 220 (by decide +kernel) (by decide +kernel)
theorem acl_Z : Cond.arrayClass .boolean ∈ tblG := tg 242 (by decide +kernel) (by decide +kernel)
